/** Promises 16 to 20: THE TALE of a set of CAUSES, OFF, BEST, SIMPLE sets and RIVALS. */
final class TaleTest {
    public static void main(String[] args) {
        offOfReadings();
        offOfOtherBits();
        offAtTheEdgesOfDoubt();
        readingsOfEarlierHours();
        taleOfNow();
        taleRefusals();
        taleGoesByWhatIsNow();
        taleIsFreshAfterEveryChange();
        taleWithoutTrials();
        bestByOffThenFewThenBits();
        onlyTheFirstSix();
        simpleSets();
        rivalsThatFit();
        nothingFits();
        Check.finish();
    }

    /** CAUSE 0: a PIPE of 10 at WALL 0; 1: one of 20 there; 2: one of 30 at WALL 1. DRY is half. */
    private static DampHouse pipes() {
        DampHouse x = new DampHouse();
        x.wall(0, 0, 0, false);
        x.wall(1, 1, 0, false);
        x.dry(50);
        x.cause(1, 0, 10, 0);
        x.cause(1, 0, 20, 0);
        x.cause(1, 1, 30, 0);
        x.hours(1);
        return x;
    }

    private static void offOfReadings() {
        DampHouse x = pipes();
        Check.due("no READINGS", x.off(0), 0);
        Check.due("no READINGS", x.off(7), 0);
        x.reading(0, 1, 12, 1);
        x.reading(1, 1, 10, 2);
        Check.due("11 below and 8 below", x.off(0), 19);
        Check.due("6 below and 8 below", x.off(1), 14);
        Check.due("1 below and 8 below", x.off(2), 9);
        Check.due("2 above and 8 below", x.off(3), 10);
        Check.due("11 below and 3 above", x.off(4), 14);
        Check.due("6 below and 3 above", x.off(5), 9);
        Check.due("1 below and 3 above", x.off(6), 4);
        Check.due("2 above and 3 above", x.off(7), 5);
        DampHouse y = new DampHouse();
        y.wall(0, 0, 0, true);
        for (int i = 0; i < 60; i++) {
            y.reading(0, 0, 99999, 0);
        }
        Check.due("sixty times as far as can be", y.off(0), 5999940);
    }

    private static void offOfOtherBits() {
        DampHouse x = pipes();
        Check.dueIllegalArgument("off(8) of three", () -> x.off(8));
        Check.dueIllegalArgument("off(-1)", () -> x.off(-1));
        Check.dueIllegalArgument("off(least)", () -> x.off(Integer.MIN_VALUE));
        Check.dueIllegalArgument("off(most)", () -> x.off(Integer.MAX_VALUE));
        Check.dueIllegalArgument("off(64)", () -> x.off(64));
        Check.dueIllegalArgument("off(1) without CAUSES", () -> new DampHouse().off(1));
        Check.due("off(0) without CAUSES", new DampHouse().off(0), 0);
        for (int i = 0; i < 7; i++) {
            x.cause(1, 0, 1, 0);
        }
        Check.due("off(63)", x.off(63), 0);
        Check.dueIllegalArgument("off(64) of ten", () -> x.off(64));
        for (int i = 11; i <= 16; i++) {
            Check.due("no REFUSALS", x.count(i), 0);
        }
    }

    private static void offAtTheEdgesOfDoubt() {
        DampHouse x = pipes();
        x.reading(0, 1, 15, 10);
        Check.due("5 is just let", x.off(1), 0);
        Check.due("0 is not", x.off(0), 5);
        DampHouse y = pipes();
        y.reading(0, 1, 8, 2);
        Check.due("10 is just let", y.off(2), 0);
        Check.due("15 is not", y.off(3), 5);
        DampHouse z = pipes();
        z.reading(0, 1, 1, 999);
        Check.due("all is let", z.off(3), 0);
    }

    private static void readingsOfEarlierHours() {
        DampHouse x = pipes();
        x.hours(3);
        x.reading(0, 0, 1, 0);
        x.reading(0, 1, 5, 0);
        x.reading(0, 2, 7, 0);
        x.reading(1, 2, 0, 0);
        x.reading(0, 4, 9, 0);
        // A PIPE of 10: 0, 5, 7, 8, 9 after 0 to 4 HOURS.
        Check.due("only HOUR 0 is off", x.off(1), 1);
    }

    private static void taleOfNow() {
        DampHouse x = pipes();
        Check.due("10 less 5", x.tale(1, 0), 5);
        x.hours(1);
        Check.due("15 less 8", x.tale(1, 0), 7);
        Check.due("of the other wall", x.tale(1, 1), 0);
        Check.due("of all", x.tale(7, 0), 22);
        Check.due("of all", x.tale(7, 1), 22);
        Check.due("of none", x.tale(0, 0), 0);
        x.truth(0, true);
        Check.due("TRUE ones do not count", x.tale(0, 0), 0);
        x.cause(2, 0, 9, 2);
        Check.due("not yet", x.tale(8, 0), 0);
        x.hours(1);
        Check.due("from its HOUR on", x.tale(8, 0), 4);
        Check.due("at HOUR 0 nothing has passed", at0().tale(1, 0), 0);
    }

    private static DampHouse at0() {
        DampHouse x = new DampHouse();
        x.wall(0, 0, 0, false);
        x.cause(1, 0, 99, 0);
        return x;
    }

    private static void taleRefusals() {
        DampHouse x = pipes();
        Check.due("no such wall, ahead of -2", x.tale(8, 12), -1);
        Check.due("no such wall", x.tale(0, -1), -1);
        Check.due("not told", x.tale(0, 2), -1);
        Check.due("other bits", x.tale(8, 0), -2);
        Check.due("other bits", x.tale(-1, 0), -2);
        Check.due("refusals -1", x.count(11), 3);
        Check.due("refusals -2", x.count(12), 2);
    }

    private static void taleGoesByWhatIsNow() {
        DampHouse x = pipes();
        x.hours(1);
        x.dry(1);
        Check.due("DRY of now: 10 less 1, 19 less 1", x.tale(1, 0), 18);
        x.made(0, 1, 999);
        // HOUR 0: 14 come in; HOUR 1: 1013 less 87 is 926, 46 above 880.
        Check.due("MADE of now", x.tale(0, 0), 45);
        x.room(0, 2, 0);
        Check.due("GAPS of now: 999 less 880", x.tale(0, 0), 117);
        x.room(0, 0, 10);
        Check.due("AIR of now: 999 less 220", x.tale(0, 0), 771);
        x.room(0, 1, 0);
        Check.due("WARMTH of now: 999 less 50", x.tale(0, 0), 939);
        x.room(0, 3, 50);
        Check.due("a FAN that is off", x.tale(0, 0), 939);
        x.room(0, 4, 1);
        // HOUR 0: OUT is 35, half of it is 17; HOUR 1: 1016 less 490 is 526, 476 above 50.
        Check.due("a FAN that is on", x.tale(0, 0), 471);
        x.outside(0, 0, -20);
        // OUT is 5: 2; 1001 less 498 is 503.
        Check.due("OUTSIDE of now", x.tale(0, 0), 448);
        x.wall(0, 2, 0, false);
        Check.due("WALLS of now", x.tale(0, 0), 0);
        x.room(2, 5, 99999);
        Check.due("WET is 0 at first", x.tale(0, 0), 0);
    }

    private static void taleIsFreshAfterEveryChange() {
        DampHouse x = pipes();
        x.hours(1);
        x.reading(0, 2, 0, 0);
        Check.due("nothing", x.off(0), 0);
        Check.due("15 less 8", x.off(1), 7);
        x.dry(1);
        Check.due("DRY of now", x.off(1), 18);
        x.made(0, 1, 999);
        Check.due("MADE of now", x.off(0), 45);
        x.room(0, 2, 0);
        Check.due("GAPS of now", x.off(0), 117);
        x.room(0, 2, 10);
        Check.due("GAPS as they were", x.off(0), 45);
        x.outside(0, 0, 30);
        // OUT is 840: 84, then 1083 less 24 is 1059: 179 above.
        Check.due("OUTSIDE of now", x.off(0), 177);
        x.wall(0, 2, 0, false);
        Check.due("WALLS of now", x.off(0), 0);
        Check.due("best", x.best(), 0);
        x.reading(0, 2, 18, 0);
        Check.due("one READING more", x.off(0), 18);
        x.cause(1, 0, 50, 1);
        Check.due("one CAUSE more", x.off(8), 49 + 31);
        x.hours(1);
        Check.due("HOURS later the same", x.off(0), 18);
    }

    private static void taleWithoutTrials() {
        DampHouse x = new DampHouse();
        x.wall(0, 0, 0, false);
        x.room(0, 2, 0);
        x.room(0, 3, 50);
        for (int h = 0; h < 3; h++) {
            x.made(0, h, 999);
        }
        x.trial(0, 0, 0, 0, 1);
        x.trial(0, 1, 50, 1, 3);
        x.hours(1);
        Check.due("as if no TRIAL had been: 119 less 5", x.tale(0, 0), 114);
        x.reading(0, 1, 114, 0);
        Check.due("as if no TRIAL had been", x.off(0), 0);
        x.hours(1);
        // While the TRIAL goes on GAPS are 50: 999 less 429 is 570 and then 1569 less 714 is 855.
        Check.due("GAPS as they are now", x.tale(0, 0), 0);
        Check.due("GAPS as they are now", x.off(0), 114);
        x.hours(1);
        Check.due("it has ended", x.off(0), 0);
    }

    private static void bestByOffThenFewThenBits() {
        DampHouse x = pipes();
        Check.due("all FIT: the empty set", x.best(), 0);
        x.reading(0, 1, 15, 0);
        Check.due("the least OFF", x.best(), 3);
        DampHouse y = pipes();
        y.reading(0, 1, 12, 2);
        Check.due("the fewest", y.best(), 2);
        DampHouse z = pipes();
        z.cause(1, 0, 20, 0);
        z.reading(0, 1, 10, 0);
        Check.due("the least as bits", z.best(), 2);
        DampHouse few = pipes();
        few.cause(1, 0, 30, 0);
        few.reading(0, 1, 15, 0);
        Check.due("the fewest, though greater as bits", few.best(), 8);
        Check.due("the only SIMPLE set", few.simple(0), 1);
        DampHouse far = pipes();
        far.reading(0, 1, 99999, 0);
        Check.due("none FITS", far.best(), 3);
    }

    private static void onlyTheFirstSix() {
        DampHouse x = new DampHouse();
        x.wall(0, 0, 0, false);
        for (int i = 0; i < 6; i++) {
            x.cause(1, 0, 1, 0);
        }
        x.cause(1, 0, 99, 0);
        x.truth(6, true);
        x.hours(1);
        x.reading(0, 1, 95, 0);
        Check.due("the seventh does not count", x.off(63), 90);
        Check.due("best", x.best(), 63);
        Check.due("simple", x.simple(0), -9);
    }

    private static void simpleSets() {
        DampHouse x = pipes();
        Check.due("the empty set", x.simple(0), 1);
        Check.due("the empty set", x.simple(1), 0);
        x.reading(0, 1, 8, 3);
        Check.due("two sets of one", x.simple(0), 2);
        Check.due("two sets of one", x.simple(1), 1);
        x.reading(1, 1, 15, 0);
        Check.due("two sets of two", x.simple(0), 2);
        Check.due("two sets of two", x.simple(1), 2);
        x.look(1, 1);
        x.answer(0, true);
        Check.due("LOOKS do not part SIMPLE sets", x.simple(0), 2);
        x.reading(1, 1, 14, 0);
        Check.due("none", x.simple(0), -9);
        Check.due("none", x.simple(1), -9);
        Check.due("another what", x.simple(2), -2);
        Check.due("another what", x.simple(-1), -2);
        Check.due("refusals -2", x.count(12), 2);
    }

    private static void rivalsThatFit() {
        DampHouse x = pipes();
        Check.due("all sets", x.rivals(), 8);
        x.reading(0, 1, 8, 3);
        Check.due("one of two, and one that may be", x.rivals(), 4);
        x.reading(1, 1, 15, 0);
        Check.due("one of two", x.rivals(), 2);
        x.cause(1, 5, 1, 0);
        Check.due("a CAUSE that is refused", x.rivals(), 2);
        x.cause(3, 5, 1, 0);
        Check.due("one that changes no WALL", x.rivals(), 4);
        for (int i = 0; i < 6; i++) {
            x.cause(3, 5, 1, 0);
        }
        Check.due("of the first six alone", x.rivals(), 16);
    }

    private static void nothingFits() {
        DampHouse x = pipes();
        x.reading(0, 1, 1, 0);
        Check.due("rivals", x.rivals(), 0);
        Check.due("best", x.best(), 0);
    }
}
