/** Promises 30 to 35: RULES, the CHILD, WORDS, DUE, QUARREL and what is counted. */
final class RulesTest {
    public static void main(String[] args) {
        rules();
        ruleRefusals();
        child();
        words();
        dueOfEachKind();
        dueByTheRuleInForce();
        dueByTheLatestYes();
        dueWithAChild();
        dueRefusals();
        quarrels();
        counts();
        Check.finish();
    }

    private static void rules() {
        DampHouse x = new DampHouse();
        Check.due("rule", x.rule(0, 0, 0, 0), 0);
        Check.due("rule", x.rule(25, 3, 1, 99), 1);
        for (int i = 2; i < 12; i++) {
            Check.due("its number", x.rule(1, 1, 1, 1), i);
        }
        Check.due("no room", x.rule(1, 1, 1, 1), -6);
        Check.due("-4 ahead of no room", x.rule(1, 1, 1, -1), -4);
        Check.due("RULES", x.count(8), 12);
    }

    private static void ruleRefusals() {
        DampHouse x = new DampHouse();
        x.hours(47);
        Check.due("kind above, ahead of -4", x.rule(0, 4, 0, 0), -2);
        Check.due("kind below", x.rule(2, -1, 0, 0), -2);
        Check.due("who above", x.rule(2, 0, 2, 0), -2);
        Check.due("who below", x.rule(2, 0, -1, 0), -2);
        Check.due("a DAY that was, ahead of -6", x.rule(0, 0, 0, 100), -4);
        Check.due("a DAY below", x.rule(-1, 0, 0, 0), -4);
        Check.due("DAYS below", x.rule(26, 0, 0, -1), -4);
        Check.due("a DAY above", x.rule(26, 0, 0, 0), -6);
        Check.due("DAYS above", x.rule(2, 0, 0, 100), -6);
        Check.due("the DAY of now", x.rule(1, 0, 0, 0), 0);
        x.hours(1);
        Check.due("it is the next DAY", x.rule(1, 0, 0, 0), -4);
        Check.due("RULES", x.count(8), 1);
        Check.due("refusals -2", x.count(12), 4);
        Check.due("refusals -4", x.count(14), 4);
        Check.due("refusals -6", x.count(16), 2);
    }

    private static void child() {
        DampHouse x = new DampHouse();
        Check.due("not there at first", x.child(false), 0);
        Check.due("there", x.child(true), 1);
        Check.due("it was", x.child(true), 0);
        Check.due("not there", x.child(false), 1);
        Check.due("it was", x.child(false), 0);
    }

    private static void words() {
        DampHouse x = new DampHouse();
        for (int kind = 0; kind < 4; kind++) {
            Check.due("owner", x.word(false, kind, true), 1);
            Check.due("dweller", x.word(true, kind, false), 1);
            Check.due("dweller again", x.word(true, kind, false), 1);
        }
        Check.due("kind above", x.word(true, 4, false), -2);
        Check.due("kind below", x.word(false, -1, true), -2);
        Check.due("refusals -2", x.count(12), 2);
    }

    /** BEST has a PIPE, number 1; a GROUND is there, but not in it. */
    private static DampHouse withPipe() {
        DampHouse x = new DampHouse();
        x.wall(0, 0, 0, true);
        x.cause(2, 0, 99, 0);
        x.cause(1, 0, 10, 0);
        x.hours(1);
        x.reading(0, 1, 9, 0);
        return x;
    }

    private static void dueOfEachKind() {
        DampHouse x = withPipe();
        Check.due("best", x.best(), 2);
        Check.due("no RULE", x.due(1, 0), -9);
        Check.due("no RULE", x.due(1, 1), -9);
        for (int kind = 0; kind < 4; kind++) {
            x.rule(0, kind, 1, 5);
        }
        Check.due("the DAY", x.due(1, 0), 5);
        Check.due("WHO", x.due(1, 1), 1);
        Check.due("BEST has none", x.due(0, 0), -9);
        Check.due("BEST has none", x.due(2, 0), -9);
        Check.due("BEST has none", x.due(3, 1), -9);
        x.reading(0, 1, 104, 0);
        // The GROUND alone gives 95, both give 104: all three are OFF by 95.
        Check.due("best of both READINGS", x.best(), 1);
        Check.due("it has no PIPE", x.due(1, 0), -9);
        x.reading(0, 1, 104, 0);
        Check.due("best of three READINGS", x.best(), 3);
        Check.due("now it has", x.due(2, 0), 5);
        Check.due("and the PIPE", x.due(1, 0), 5);
    }

    private static void dueByTheRuleInForce() {
        DampHouse x = withPipe();
        x.rule(2, 1, 1, 20);
        Check.due("not in force yet", x.due(1, 0), -9);
        x.rule(0, 1, 0, 30);
        x.rule(0, 1, 1, 31);
        Check.due("of several the greatest number", x.due(1, 0), 31);
        Check.due("of several the greatest number", x.due(1, 1), 1);
        x.rule(1, 1, 0, 40);
        x.rule(0, 2, 0, 77);
        Check.due("for its KIND", x.due(1, 0), 31);
        x.hours(23);
        Check.due("DAY 1 and 40", x.due(1, 0), 41);
        Check.due("WHO", x.due(1, 1), 0);
        x.hours(24);
        Check.due("the latest DAY, though its number is the least", x.due(1, 0), 22);
        x.hours(552);
        Check.due("at HOUR 600: DAY 25 and 20", x.due(1, 0), 45);
    }

    private static void dueByTheLatestYes() {
        DampHouse x = withPipe();
        x.rule(0, 1, 0, 10);
        x.rule(2, 1, 1, 5);
        x.word(false, 1, true);
        x.hours(94);
        Check.due("from the word on DAY 0", x.due(1, 0), 10);
        Check.due("WHO", x.due(1, 1), 0);
        x.word(true, 0, true);
        x.word(true, 1, false);
        Check.due("a no, and another KIND, change nothing", x.due(1, 0), 10);
        x.word(true, 1, true);
        Check.due("from the word in HOUR 95, on DAY 3", x.due(1, 0), 8);
        Check.due("WHO", x.due(1, 1), 1);
        x.hours(24);
        x.word(true, 1, false);
        x.word(false, 1, false);
        Check.due("the latest yes, though taken back", x.due(1, 0), 8);
        DampHouse y = withPipe();
        y.rule(0, 1, 0, 10);
        y.word(false, 1, false);
        y.hours(48);
        Check.due("no yes: of now", y.due(1, 0), 12);
    }

    private static void dueWithAChild() {
        DampHouse x = withPipe();
        x.rule(0, 1, 0, 9);
        Check.due("9", x.due(1, 0), 9);
        x.child(true);
        Check.due("half of 9, rounded up", x.due(1, 0), 5);
        x.rule(0, 1, 0, 8);
        Check.due("half of 8", x.due(1, 0), 4);
        x.rule(0, 1, 0, 0);
        Check.due("at once", x.due(1, 0), 0);
        x.child(false);
        x.rule(0, 1, 0, 99);
        Check.due("99", x.due(1, 0), 99);
    }

    private static void dueRefusals() {
        DampHouse x = withPipe();
        Check.due("kind above", x.due(4, 0), -2);
        Check.due("kind below", x.due(-1, 0), -2);
        Check.due("what above", x.due(1, 2), -2);
        Check.due("what below", x.due(1, -1), -2);
        Check.due("what, though BEST has none", x.due(0, 2), -2);
        Check.due("refusals -2", x.count(12), 5);
    }

    private static void quarrels() {
        DampHouse x = new DampHouse();
        Check.due("no words", x.quarrel(0), 0);
        x.word(false, 0, true);
        Check.due("one word", x.quarrel(0), 0);
        x.word(true, 1, false);
        Check.due("on another KIND", x.quarrel(0), 0);
        Check.due("on another KIND", x.quarrel(1), 0);
        x.word(true, 0, false);
        Check.due("they differ", x.quarrel(0), 1);
        x.word(true, 0, true);
        Check.due("the latest counts", x.quarrel(0), 0);
        x.word(false, 0, false);
        Check.due("they differ", x.quarrel(0), 1);
        x.word(true, 0, false);
        Check.due("both say no", x.quarrel(0), 0);
        x.word(true, 3, false);
        x.word(false, 3, true);
        Check.due("the last KIND", x.quarrel(3), 1);
        Check.due("kind above", x.quarrel(4), -2);
        Check.due("kind below", x.quarrel(-1), -2);
        Check.due("refusals -2", x.count(12), 2);
    }

    private static void counts() {
        DampHouse x = withPipe();
        x.truth(1, true);
        x.look(1, 1);
        x.look(2, 1);
        x.look(2, 1);
        x.answer(1, true);
        x.answer(1, true);
        x.trial(0, 0, 0, 1, 2);
        x.rule(0, 0, 0, 0);
        x.flat(0, 0, 0, 1);
        x.flat(1, 0, 0, 0);
        int[] due = {1, 1, 1, 2, 1, 3, 1, 1, 1, 2, -9, 0, 0, 1, 0, 0, 0, -9};
        for (int what = 0; what < due.length; what++) {
            Check.due("count " + what, x.count(what), due[what]);
        }
        Check.due("count below", x.count(-1), -9);
        Check.due("count far below", x.count(Integer.MIN_VALUE), -9);
        Check.due("count far above", x.count(Integer.MAX_VALUE), -9);
        Check.due("that was no REFUSAL", x.count(12), 0);
        x.dry(0);
        x.dry(51);
        x.wet(9);
        x.simple(9);
        int[] refused = {1, 1, 1, 1, 0, 1};
        for (int i = 0; i < refused.length; i++) {
            Check.due("refusals " + (-1 - i), x.count(11 + i), refused[i]);
        }
    }
}
