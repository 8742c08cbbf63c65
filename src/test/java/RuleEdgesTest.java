/** Part VII of the document and what is counted, one test a sentence that names an edge. */
final class RuleEdgesTest {
    public static void main(String[] args) {
        twelveRules();
        dayOfTheHour();
        nowOrLater();
        withinDays();
        childHalvesThem();
        whoMustMend();
        wordsOfEachKind();
        latestWordCounts();
        dueOnlyOfBest();
        dueOfTheFirstSixAlone();
        dueOfTheDayOfNow();
        dueOfTheLatestYes();
        inForceFromItsDayOn();
        greatestNumberOfOneDay();
        dueWithoutRules();
        quarrelOfBoth();
        countsAndNothingElse();
        refusalsAreCounted();
        refusalsOfWhatMayBeBelow();
        Check.finish();
    }

    /** "RULES have numbers from 0 on (12 at most)" */
    private static void twelveRules() {
        DampHouse x = new DampHouse();
        for (int i = 0; i < 12; i++) {
            Check.due("from 0 on", x.rule(2 * i, i % 4, i % 2, 9 * i), i);
        }
        Check.due("the 13th", x.rule(0, 0, 0, 0), -6);
        Check.due("RULES", x.count(8), 12);
    }

    /** "from a DAY on (HOUR by 24, cut" */
    private static void dayOfTheHour() {
        int[] hours = {0, 23, 24, 47, 48, 575, 576, 599, 600};
        int[] days = {0, 0, 1, 1, 2, 23, 24, 24, 25};
        for (int i = 0; i < hours.length; i++) {
            DampHouse x = new DampHouse();
            if (hours[i] > 0) {
                x.hours(hours[i]);
            }
            Check.due("the DAY ahead at " + hours[i], x.rule(days[i] - 1, 0, 0, 0), -4);
            Check.due("the DAY at " + hours[i], x.rule(days[i], 0, 0, 0), 0);
        }
    }

    /** "now or later)", "DAY 0 .. 25" */
    private static void nowOrLater() {
        DampHouse x = new DampHouse();
        Check.due("DAY 25", x.rule(25, 0, 0, 0), 0);
        Check.due("DAY 26", x.rule(26, 0, 0, 0), -6);
        x.hours(600);
        Check.due("DAY 25 is now", x.rule(25, 0, 0, 0), 1);
        Check.due("DAY 24 was", x.rule(24, 0, 0, 0), -4);
    }

    /** BEST is a PIPE from HOUR 1 on. */
    private static DampHouse withPipe() {
        DampHouse x = new DampHouse();
        x.wall(0, 0, 0, true);
        x.cause(1, 0, 10, 0);
        x.hours(1);
        x.reading(0, 1, 9, 0);
        return x;
    }

    private static int dueWithin(int within, boolean child) {
        DampHouse x = withPipe();
        x.rule(0, 1, 0, within);
        x.child(child);
        return x.due(1, 0);
    }

    /** "within DAYS (0 .. 99)" */
    private static void withinDays() {
        Check.due("0", dueWithin(0, false), 0);
        Check.due("1", dueWithin(1, false), 1);
        Check.due("99", dueWithin(99, false), 99);
        Check.due("-1 is refused", dueWithin(-1, false), -9);
        Check.due("100 is refused", dueWithin(100, false), -9);
        DampHouse x = withPipe();
        x.rule(25, 1, 1, 99);
        x.hours(599);
        Check.due("DAY 25 and 99", x.due(1, 0), 124);
    }

    /** "with a CHILD in the home: half of them, rounded up" */
    private static void childHalvesThem() {
        int[] within = {0, 1, 2, 3, 98, 99};
        int[] half = {0, 1, 1, 2, 49, 50};
        for (int i = 0; i < within.length; i++) {
            Check.due("half of " + within[i], dueWithin(within[i], true), half[i]);
        }
        DampHouse x = withPipe();
        x.rule(0, 1, 0, 7);
        x.child(true);
        x.hours(23);
        Check.due("the DAY itself is not halved", x.due(1, 0), 5);
        x.child(false);
        Check.due("the CHILD has gone", x.due(1, 0), 8);
    }

    /** "WHO must mend it (0 owner, 1 dweller)" */
    private static void whoMustMend() {
        DampHouse x = withPipe();
        x.rule(0, 1, 0, 9);
        Check.due("the owner", x.due(1, 1), 0);
        x.rule(0, 1, 1, 9);
        Check.due("the dweller", x.due(1, 1), 1);
        Check.due("nobody else", x.rule(0, 1, 2, 9), -2);
        Check.due("nobody else", x.rule(0, 1, -1, 9), -2);
    }

    private static void wordsOfEachKind() {
        DampHouse x = new DampHouse();
        for (int kind = 0; kind < 4; kind++) {
            Check.due("no words", x.quarrel(kind), 0);
            Check.due("the owner's", x.word(false, kind, true), 1);
            Check.due("the dweller's", x.word(true, kind, false), 1);
            Check.due("they differ", x.quarrel(kind), 1);
        }
        Check.due("KIND 4", x.word(true, 4, true), -2);
        Check.due("KIND -1", x.word(true, -1, true), -2);
    }

    /** "from an HOUR on each, the latest counts" */
    private static void latestWordCounts() {
        DampHouse x = new DampHouse();
        x.word(false, 0, true);
        x.word(true, 0, false);
        x.word(true, 0, true);
        Check.due("of one HOUR the latest", x.quarrel(0), 0);
        x.hours(600);
        x.word(false, 0, false);
        Check.due("at HOUR 600", x.quarrel(0), 1);
        x.word(true, 0, false);
        Check.due("both say no", x.quarrel(0), 0);
    }

    /** "DUE of a KIND: if BEST has a CAUSE of it" */
    private static void dueOnlyOfBest() {
        DampHouse x = withPipe();
        for (int kind = 0; kind < 4; kind++) {
            x.rule(0, kind, 1, 5);
            x.word(true, kind, true);
        }
        int[] days = {-9, 5, -9, -9};
        int[] who = {-9, 1, -9, -9};
        for (int kind = 0; kind < 4; kind++) {
            Check.due("the DAY of KIND " + kind, x.due(kind, 0), days[kind]);
            Check.due("WHO of KIND " + kind, x.due(kind, 1), who[kind]);
        }
        DampHouse y = new DampHouse();
        y.rule(0, 1, 1, 5);
        Check.due("no CAUSES", y.due(1, 0), -9);
        y.wall(0, 0, 0, true);
        y.cause(1, 0, 10, 0);
        y.truth(0, true);
        Check.due("TRUE, but BEST is empty", y.due(1, 0), -9);
    }

    private static void dueOfTheFirstSixAlone() {
        DampHouse x = new DampHouse();
        x.wall(0, 0, 0, true);
        for (int i = 0; i < 5; i++) {
            x.cause(3, 5, 1, 0);
        }
        x.cause(1, 0, 10, 0);
        x.cause(2, 0, 90, 0);
        x.hours(1);
        x.reading(0, 1, 86, 0);
        for (int kind = 0; kind < 4; kind++) {
            x.rule(0, kind, 0, 3);
        }
        Check.due("the sixth", x.due(1, 0), 3);
        Check.due("the seventh, though it would FIT", x.due(2, 0), -9);
        Check.due("BREATH is not in BEST", x.due(3, 0), -9);
    }

    /** "(none: of now)" */
    private static void dueOfTheDayOfNow() {
        DampHouse x = withPipe();
        x.rule(0, 1, 0, 10);
        x.word(false, 1, false);
        x.word(true, 1, false);
        x.word(true, 0, true);
        x.hours(22);
        Check.due("at HOUR 23", x.due(1, 0), 10);
        x.hours(1);
        Check.due("at HOUR 24", x.due(1, 0), 11);
        x.hours(576);
        Check.due("at HOUR 600", x.due(1, 0), 35);
    }

    /** "on the DAY of the latest word by which either said yes to it" */
    private static void dueOfTheLatestYes() {
        for (int dweller = 0; dweller < 2; dweller++) {
            DampHouse x = withPipe();
            x.rule(0, 1, 0, 10);
            x.hours(22);
            x.word(dweller == 1, 1, true);
            x.hours(1);
            Check.due("said in HOUR 23", x.due(1, 0), 10);
            x.word(dweller == 0, 1, true);
            Check.due("said in HOUR 24 by the other", x.due(1, 0), 11);
            x.hours(48);
            Check.due("days later", x.due(1, 0), 11);
            x.word(dweller == 1, 1, true);
            Check.due("said again", x.due(1, 0), 13);
        }
    }

    /** "in force: the latest DAY not behind" */
    private static void inForceFromItsDayOn() {
        DampHouse x = withPipe();
        x.rule(1, 1, 1, 20);
        x.hours(22);
        Check.due("the DAY ahead of it", x.due(1, 0), -9);
        Check.due("the DAY ahead of it", x.due(1, 1), -9);
        x.hours(1);
        Check.due("its DAY", x.due(1, 0), 21);
        Check.due("its DAY", x.due(1, 1), 1);
        x.rule(2, 1, 0, 30);
        Check.due("one of tomorrow is not in force", x.due(1, 0), 21);
        x.hours(24);
        Check.due("the latest", x.due(1, 0), 32);
    }

    /** "of several the greatest number" */
    private static void greatestNumberOfOneDay() {
        DampHouse x = withPipe();
        x.rule(1, 1, 0, 50);
        x.rule(1, 1, 1, 40);
        x.rule(0, 1, 0, 30);
        x.rule(0, 1, 1, 20);
        Check.due("on DAY 0", x.due(1, 0), 20);
        x.hours(23);
        Check.due("on DAY 1", x.due(1, 0), 41);
        Check.due("WHO on DAY 1", x.due(1, 1), 1);
    }

    /** "-9 without" */
    private static void dueWithoutRules() {
        DampHouse x = withPipe();
        Check.due("no RULES", x.due(1, 0), -9);
        x.rule(0, 0, 0, 1);
        x.rule(0, 2, 0, 1);
        Check.due("RULES for other KINDS", x.due(1, 0), -9);
        x.word(true, 1, true);
        x.hours(24);
        x.rule(1, 1, 0, 1);
        Check.due("none in force on the DAY of the word", x.due(1, 0), -9);
        Check.due("an answer, no refusal", x.count(11) + x.count(12) + x.count(13) + x.count(14) + x.count(16), 0);
    }

    /** "QUARREL of a KIND: the latest words of both are there and differ." */
    private static void quarrelOfBoth() {
        for (int owner = 0; owner < 3; owner++) {
            for (int dweller = 0; dweller < 3; dweller++) {
                DampHouse x = new DampHouse();
                if (owner < 2) {
                    x.word(false, 3, owner == 1);
                }
                if (dweller < 2) {
                    x.word(true, 3, dweller == 1);
                }
                boolean differ = owner < 2 && dweller < 2 && owner != dweller;
                Check.due(owner + " and " + dweller, x.quarrel(3), differ ? 1 : 0);
            }
        }
    }

    /** "-9 for another what." */
    private static void countsAndNothingElse() {
        DampHouse x = States.full();
        int[] due = {600, 12, 60, 10, 4, 8, 0, 20, 12, 24, -9};
        for (int what = 0; what < due.length; what++) {
            Check.due("count " + what, x.count(what), due[what]);
        }
        int[] other = {Integer.MIN_VALUE, -9, -1, 10, 17, 18, Integer.MAX_VALUE};
        int before = x.count(12);
        for (int what : other) {
            Check.due("count " + what, x.count(what), -9);
        }
        Check.due("they are no refusals", x.count(12), before);
    }

    /** "nothing changes but how many there were" */
    private static void refusalsAreCounted() {
        DampHouse x = new DampHouse();
        for (int i = 1; i <= 50; i++) {
            x.wet(6);
            x.simple(2);
            x.reading(0, 0, 0, 0);
            x.dry(0);
            x.dry(51);
            int[] due = {2 * i, i, 0, i, 0, i};
            for (int refusal = 0; refusal < 6; refusal++) {
                Check.due("refusals -" + (refusal + 1), x.count(11 + refusal), due[refusal]);
            }
        }
    }

    /** "Of answers that may be below 0 otherwise than -9 as told REFUSALS are 1000000000 less them." */
    private static void refusalsOfWhatMayBeBelow() {
        DampHouse x = new DampHouse();
        Check.due("outside, -2", x.outside(0, 2, 0), 1000000002);
        Check.due("outside, -4", x.outside(-1, 0, 0), 1000000004);
        Check.due("outside, -6", x.outside(600, 0, 0), 1000000006);
        Check.due("weather, -2", x.weather(0, 2), 1000000002);
        Check.due("weather, -4", x.weather(-1, 0), 1000000004);
        Check.due("weather, -6", x.weather(600, 0), 1000000006);
        x.outside(0, 0, -6);
        Check.due("an answer below 0 is none", x.weather(0, 0), -6);
        Check.due("an answer below 0 is none", x.outside(0, 0, -4), -6);
        Check.due("an answer below 0 is none", x.outside(0, 0, 99), -4);
        int[] due = {0, 2, 0, 2, 0, 2};
        for (int refusal = 0; refusal < 6; refusal++) {
            Check.due("refusals -" + (refusal + 1), x.count(11 + refusal), due[refusal]);
        }
    }
}
