/** Part IV of the document, one test a sentence that names an edge: LOOKS, RIVALS, NEXT, ANSWERED and PLAN. */
final class LookEdgesTest {
    public static void main(String[] args) {
        eightLooks();
        priceAtItsLeastAndMost();
        setsOfNoneAndOfAll();
        rivalsOfTheFirstSix();
        nextOfEquals();
        nextByTheGreaterNumber();
        nextOfOneRival();
        nextWithoutLooksOrRivals();
        answeredOnce();
        answersThatLeaveNone();
        answersBeforeReadings();
        planWithoutRivals();
        planOfOneRival();
        planIfNoLookParts();
        planByWhatCame();
        planByTheLastLooks();
        planOfTheWorstCase();
        planAtTheMost();
        planOfThoseNotAnswered();
        Check.finish();
    }

    /** "LOOKS that could be made have numbers from 0 on (8 at most)" */
    private static void eightLooks() {
        DampHouse x = States.withCauses(3);
        Check.due("no LOOK is there", x.answer(0, true), -1);
        for (int i = 0; i < 8; i++) {
            Check.due("from 0 on", x.look(1, 1), i);
            Check.due("not the next", x.answer(i + 1, true), -1);
        }
        Check.due("the ninth", x.look(1, 1), -6);
        Check.due("LOOKS", x.count(5), 8);
        Check.due("the eighth is there", x.answer(7, true), 4);
    }

    /** "a PRICE (1 .. 999)" */
    private static void priceAtItsLeastAndMost() {
        DampHouse x = States.withCauses(1);
        Check.due("0", x.look(1, 0), -4);
        Check.due("1000", x.look(1, 1000), -6);
        Check.due("999", x.look(1, 999), 0);
        Check.due("plan", x.plan(), 999);
        Check.due("1", x.look(1, 1), 1);
        Check.due("plan", x.plan(), 1);
    }

    /** "a set of CAUSES that would make it answer yes": bits of CAUSES 0 .. 5. */
    private static void setsOfNoneAndOfAll() {
        DampHouse x = States.withCauses(6);
        x.look(0, 1);
        x.look(63, 1);
        x.look(32, 1);
        Check.due("CAUSE 5", x.answer(2, true), 32);
        Check.due("some CAUSE", x.answer(1, true), 32);
        Check.due("a set of none says no", x.answer(0, false), 32);
        DampHouse y = States.withCauses(6);
        y.look(63, 1);
        Check.due("no CAUSE at all", y.answer(0, false), 1);
        DampHouse z = States.withCauses(1);
        z.look(62, 1);
        Check.due("CAUSES that are not there say no", z.answer(0, false), 2);
        z.cause(3, 0, 1, 0);
        Check.due("one that came since says yes", z.rivals(), 2);
    }

    /** "RIVALS: all sets of CAUSES (of the first 6) that FIT." */
    private static void rivalsOfTheFirstSix() {
        int[] due = {1, 2, 4, 8, 16, 32, 64, 64, 64, 64, 64};
        for (int n = 0; n <= 10; n++) {
            Check.due("of " + n, States.withCauses(n).rivals(), due[n]);
        }
    }

    /** "NEXT: .. is least, of several the least" */
    private static void nextOfEquals() {
        DampHouse x = States.withCauses(3);
        x.look(1, 7);
        x.look(2, 7);
        x.look(7, 4);
        // 7 times 4, 7 times 4, 4 times 7.
        Check.due("all alike", x.next(), 0);
        x.look(4, 6);
        Check.due("one less", x.next(), 3);
        x.answer(3, true);
        // {2} with 0 and 1 or not: 7 times 2, 7 times 2, 4 times 4.
        Check.due("the first two alike", x.next(), 0);
        x.answer(0, true);
        // 7 times 1, 4 times 2.
        Check.due("the cheaper", x.next(), 1);
    }

    /** "PRICE times (the greater number of RIVALS that it would leave)" */
    private static void nextByTheGreaterNumber() {
        DampHouse x = States.withCauses(2);
        x.look(3, 5);
        // Yes leaves 3 of 4: 15.
        x.look(1, 8);
        // Either leaves 2: 16.
        Check.due("15 below 16", x.next(), 0);
        x.look(2, 7);
        Check.due("14 below 15", x.next(), 2);
        x.look(0, 3);
        // No leaves all 4: 12.
        Check.due("12, though it parts nothing", x.next(), 3);
    }

    /** One RIVAL is enough for a NEXT. */
    private static void nextOfOneRival() {
        DampHouse x = States.withCauses(0);
        x.look(1, 9);
        x.look(2, 8);
        Check.due("the cheapest", x.next(), 1);
        Check.due("the plan is to ask none", x.plan(), 0);
    }

    /** "-9 no LOOK is left, or no RIVALS" */
    private static void nextWithoutLooksOrRivals() {
        DampHouse x = States.withCauses(1);
        Check.due("no LOOKS", x.next(), -9);
        x.look(1, 1);
        Check.due("one", x.next(), 0);
        x.answer(0, true);
        Check.due("none is left", x.next(), -9);
        x.look(1, 1);
        Check.due("a new one", x.next(), 1);
        x.wall(0, 0, 0, false);
        x.reading(0, 0, 1, 0);
        Check.due("no RIVALS", x.next(), -9);
    }

    private static void answeredOnce() {
        DampHouse x = States.withCauses(1);
        x.look(1, 1);
        Check.due("no", x.answer(0, false), 1);
        Check.due("it was", x.answer(0, true), -3);
        Check.due("ANSWERED", x.count(6), 1);
        Check.due("as it was", x.rivals(), 1);
        Check.due("refusals -3", x.count(13), 1);
    }

    /** "RIVALS are those that FIT and answer so to all LOOKS that were answered." */
    private static void answersThatLeaveNone() {
        DampHouse x = States.withCauses(2);
        x.look(1, 1);
        x.look(1, 1);
        x.look(2, 5);
        Check.due("yes", x.answer(0, true), 2);
        Check.due("and no", x.answer(1, false), 0);
        Check.due("no RIVALS", x.rivals(), 0);
        Check.due("next", x.next(), -9);
        Check.due("plan", x.plan(), 0);
        Check.due("SIMPLE sets FIT all the same", x.simple(0), 1);
        Check.due("BEST, too", x.best(), 0);
    }

    private static void answersBeforeReadings() {
        DampHouse x = new DampHouse();
        x.wall(0, 0, 0, false);
        x.cause(1, 0, 10, 0);
        x.cause(1, 0, 10, 0);
        x.look(1, 1);
        Check.due("half of four", x.answer(0, true), 2);
        x.hours(1);
        x.reading(0, 1, 9, 0);
        Check.due("{0} and {1} FIT, {0} answers so", x.rivals(), 1);
        x.reading(0, 1, 0, 0);
        Check.due("none FITS", x.rivals(), 0);
    }

    /** "(0 without RIVALS)" */
    private static void planWithoutRivals() {
        DampHouse x = States.withCauses(2);
        x.look(1, 9);
        x.wall(0, 0, 0, false);
        Check.due("with RIVALS", x.plan(), 9);
        x.reading(0, 0, 1, 0);
        Check.due("without", x.plan(), 0);
    }

    /** "until one RIVAL is left" */
    private static void planOfOneRival() {
        DampHouse x = States.withCauses(1);
        x.look(1, 9);
        x.look(1, 8);
        Check.due("one LOOK leaves one", x.plan(), 8);
        x.answer(0, true);
        Check.due("one is left", x.plan(), 0);
    }

    /** "or no LOOK parts those that are left" */
    private static void planIfNoLookParts() {
        DampHouse x = States.withCauses(2);
        Check.due("no LOOKS", x.plan(), 0);
        x.look(0, 9);
        x.look(60, 9);
        Check.due("none parts", x.plan(), 0);
        x.look(3, 4);
        Check.due("three RIVALS stay together", x.plan(), 4);
    }

    /** The sets {0}, {1, 2} and {1, 3} FIT. */
    private static DampHouse withThreeRivals() {
        DampHouse x = new DampHouse();
        x.wall(0, 0, 0, false);
        int[] powers = {30, 10, 20, 20};
        for (int power : powers) {
            x.cause(1, 0, power, 0);
        }
        x.hours(1);
        x.reading(0, 1, 28, 0);
        return x;
    }

    /** "asked one behind the other, which next by what came" */
    private static void planByWhatCame() {
        DampHouse x = withThreeRivals();
        Check.due("{0}, {1, 2} and {1, 3}", x.rivals(), 3);
        x.look(1, 1);
        Check.due("{0} or not", x.plan(), 1);
        x.look(4, 50);
        Check.due("yes ends it, no asks the other", x.plan(), 51);
        x.look(8, 49);
        Check.due("one that parts as well for less", x.plan(), 50);
        x.look(14, 1);
        Check.due("no that ends it, yes asks the other", x.plan(), 50);
    }

    /** Only the last two of eight LOOKS part anything. */
    private static void planByTheLastLooks() {
        DampHouse x = withThreeRivals();
        for (int i = 0; i < 6; i++) {
            x.look(i % 2 == 0 ? 0 : 15, 1);
        }
        x.look(4, 50);
        x.look(1, 1);
        Check.due("yes ends it, no asks the other", x.plan(), 51);
        DampHouse y = withThreeRivals();
        for (int i = 0; i < 6; i++) {
            y.look(i % 2 == 0 ? 0 : 15, 1);
        }
        y.look(4, 50);
        y.look(2, 1);
        Check.due("no ends it, yes asks the other", y.plan(), 51);
    }

    /** "the sum of PRICES in the worst case, that least" */
    private static void planOfTheWorstCase() {
        DampHouse x = States.withCauses(2);
        x.look(1, 10);
        x.look(2, 10);
        x.look(3, 10);
        Check.due("two of three tell all", x.plan(), 20);
        x.answer(2, true);
        Check.due("{0}, {1} and both", x.plan(), 20);
        x.answer(0, false);
        Check.due("{1} alone", x.plan(), 0);
    }

    private static void planAtTheMost() {
        DampHouse x = States.withCauses(6);
        for (int i = 0; i < 6; i++) {
            x.look(1 << i, 999);
        }
        x.look(3, 999);
        x.look(48, 999);
        Check.due("six of the dearest", x.plan(), 5994);
        DampHouse y = States.withCauses(6);
        for (int i = 0; i < 8; i++) {
            y.look((1 << Math.min(6, i + 1)) - 1, 999);
        }
        Check.due("each parts the next CAUSE off", y.plan() % 999, 0);
        Check.due("the least CAUSE of each, six ways and none", y.plan(), 2997);
    }

    /** "LOOKS that are not ANSWERED" */
    private static void planOfThoseNotAnswered() {
        DampHouse x = States.withCauses(3);
        x.look(1, 5);
        x.look(2, 6);
        x.look(4, 7);
        Check.due("all", x.plan(), 18);
        x.answer(1, true);
        Check.due("two", x.plan(), 12);
        x.answer(0, false);
        Check.due("one", x.plan(), 7);
        x.answer(2, false);
        Check.due("none", x.plan(), 0);
    }
}
