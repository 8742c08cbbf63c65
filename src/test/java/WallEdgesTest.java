/** Part II of the document, one test a sentence that names an edge: WALLS, DAMP, DRY, MOULD and READINGS. */
final class WallEdgesTest {
    public static void main(String[] args) {
        theFirstAndTheLastWall();
        dampStaysWithinByAir();
        dampStaysWithinByCauses();
        driesRoundedUp();
        driesFromTheMost();
        nothingToDry();
        dryAtFirst();
        mouldFromFiftyOn();
        mouldOfAllHours();
        mouldAgainBehindCleaning();
        mouldByNumbers();
        readingNotBehindNow();
        readingNotAheadOfTheOneAhead();
        sixtyReadings();
        readingLetsItsEnds();
        readingOfTheLeastAndMost();
        Check.finish();
    }

    /** "WALLS 0 .. 11: each of a ROOM (told), a TABLE (0 .. 100: how cold it gets), OUTER or not" */
    private static void theFirstAndTheLastWall() {
        DampHouse x = new DampHouse();
        Check.due("WALL 0 is not told", x.wallOf(0, 0), -9);
        Check.due("WALL 0", x.wall(0, 5, 100, false), 1);
        Check.due("WALL 11", x.wall(11, 0, 0, true), 1);
        int[] first = {5, 100, 0, 0, 0, 13};
        int[] last = {0, 0, 1, 0, 0, 0};
        for (int what = 0; what < 6; what++) {
            Check.due("WALL 0, " + what, x.wallOf(0, what), first[what]);
            Check.due("WALL 11, " + what, x.wallOf(11, what), last[what]);
            Check.due("WALL 10, not told, " + what, x.wallOf(10, what), what == 0 ? -9 : 0);
        }
        for (int wall = 0; wall < 12; wall++) {
            x.wall(wall, 0, 0, false);
        }
        Check.due("all are told", x.count(1), 12);
        x.wall(3, 1, 1, true);
        Check.due("told anew", x.count(1), 12);
    }

    /** "DAMP (0 .. 99999; 0 at first). DAMP stays within 0 .. 99999." */
    private static void dampStaysWithinByAir() {
        DampHouse x = new DampHouse();
        x.wall(0, 0, 0, false);
        x.dry(1);
        x.room(0, 2, 0);
        x.room(0, 5, 99999);
        x.hours(1);
        // 99119 less 992.
        Check.due("one HOUR", x.wallOf(0, 3), 98127);
        x.room(0, 5, 880 + 1872);
        x.hours(1);
        Check.due("just 99999, less 1000", x.wallOf(0, 3), 98999);
        x.room(0, 5, 880 + 1001);
        x.hours(1);
        Check.due("one above, less 1000", x.wallOf(0, 3), 98999);
        x.room(0, 5, 99999);
        x.hours(1);
        Check.due("far above, less 1000", x.wallOf(0, 3), 98999);
    }

    /** The same of RAIN, PIPE and GROUND. */
    private static void dampStaysWithinByCauses() {
        for (int kind = 0; kind < 3; kind++) {
            for (int power = 29; power <= 32; power++) {
                DampHouse x = new DampHouse();
                x.wall(0, 0, 0, true);
                x.room(0, 0, 10);
                x.room(0, 1, 0);
                x.room(0, 2, 0);
                x.room(0, 5, 99999);
                x.outside(0, 1, 1);
                x.cause(1, 0, 20, 0);
                x.cause(kind, 0, power, 0);
                x.truth(0, true);
                x.truth(1, true);
                x.hours(1);
                // 99949, 20 and the POWER: 99998 dries by 4000, 99999 and what is cut to that, too.
                Check.due("KIND " + kind + ", POWER " + power, x.wallOf(0, 3), power == 29 ? 95998 : 95999);
            }
        }
    }

    /** DAMP that is left of so much, in one HOUR, by PIPES. */
    private static int left(int damp, int dry) {
        DampHouse x = new DampHouse();
        x.wall(0, 0, 0, false);
        x.dry(dry);
        int missing = damp;
        for (int i = 0; missing > 0; i++) {
            int power = Math.min(99, missing);
            x.cause(1, 0, power, 0);
            x.truth(i, true);
            missing -= power;
        }
        x.hours(1);
        return x.wallOf(0, 3);
    }

    /** "A WALL dries: its DAMP is less by DRY (1 .. 50; 4 at first) hundredths of it, rounded up." */
    private static void driesRoundedUp() {
        Check.due("1 of 1", left(1, 1), 0);
        Check.due("1 of 2", left(2, 1), 1);
        Check.due("99 hundredths", left(99, 1), 98);
        Check.due("100 hundredths", left(100, 1), 99);
        Check.due("101 hundredths", left(101, 1), 99);
        Check.due("4 of 25", left(25, 4), 24);
        Check.due("4 of 26", left(26, 4), 24);
        Check.due("half of 1", left(1, 50), 0);
        Check.due("half of 2", left(2, 50), 1);
        Check.due("half of 3", left(3, 50), 1);
        for (int damp = 1; damp <= 200; damp++) {
            for (int dry = 1; dry <= 50; dry += 7) {
                int less = damp * dry % 100 == 0 ? damp * dry / 100 : damp * dry / 100 + 1;
                Check.due(dry + " of " + damp, left(damp, dry), damp - less);
            }
        }
    }

    private static void driesFromTheMost() {
        DampHouse x = new DampHouse();
        x.wall(0, 0, 0, false);
        x.dry(50);
        x.room(0, 0, 10);
        x.room(0, 1, 0);
        x.room(0, 2, 0);
        x.room(0, 5, 99999);
        x.cause(1, 0, 99, 0);
        x.truth(0, true);
        x.hours(1);
        Check.due("half of 99999, rounded up", x.wallOf(0, 3), 49999);
    }

    /** DAMP of 0 stays 0. */
    private static void nothingToDry() {
        DampHouse x = new DampHouse();
        x.wall(0, 0, 0, false);
        x.dry(50);
        x.hours(600);
        Check.due("DAMP", x.wallOf(0, 3), 0);
        Check.due("MOULD", x.wallOf(0, 4), 0);
    }

    private static void dryAtFirst() {
        DampHouse x = new DampHouse();
        Check.due("4 at first", x.dry(1), 4);
        Check.due("the least", x.dry(50), 1);
        Check.due("the most", x.dry(50), 50);
    }

    /** "MOULD: how many HOURS together its DAMP was 50 or more as an HOUR ended" */
    private static void mouldFromFiftyOn() {
        for (int damp = 50; damp <= 53; damp++) {
            DampHouse x = new DampHouse();
            x.wall(0, 0, 0, false);
            x.dry(1);
            x.cause(1, 0, damp, 0);
            x.truth(0, true);
            x.hours(1);
            Check.due("as it dried", x.wallOf(0, 3), damp - 1);
            Check.due("MOULD of " + (damp - 1), x.wallOf(0, 4), damp - 1 >= 50 ? 1 : 0);
        }
    }

    private static void mouldOfAllHours() {
        DampHouse x = new DampHouse();
        x.wall(11, 0, 0, false);
        x.cause(1, 11, 99, 0);
        x.truth(0, true);
        x.hours(600);
        Check.due("600 HOURS", x.wallOf(11, 4), 600);
        Check.due("CLEANED", x.clean(11), 600);
        Check.due("none is left", x.clean(11), 0);
    }

    /** "(it is 0 again as its WALL is CLEANED, told)" */
    private static void mouldAgainBehindCleaning() {
        DampHouse x = new DampHouse();
        x.wall(0, 0, 0, false);
        x.wall(1, 0, 0, false);
        for (int wall = 0; wall < 2; wall++) {
            x.cause(1, wall, 99, 0);
            x.truth(wall, true);
        }
        x.hours(3);
        x.clean(0);
        Check.due("0 again", x.wallOf(0, 4), 0);
        Check.due("not the other's", x.wallOf(1, 4), 3);
        x.hours(2);
        Check.due("from 0 on", x.wallOf(0, 4), 2);
        Check.due("on", x.wallOf(1, 4), 5);
    }

    /** MOULD counts HOURS that were not next to one another, too. */
    private static void mouldByNumbers() {
        DampHouse x = new DampHouse();
        x.wall(0, 0, 0, false);
        x.dry(50);
        x.cause(1, 0, 99, 0);
        x.cause(1, 0, 99, 0);
        for (int hour = 0; hour < 10; hour++) {
            x.truth(0, hour % 5 == 0);
            x.truth(1, hour % 5 == 0);
            x.hours(1);
        }
        // 99, 49, 24, 12, 6, then 102, 51, 25, 12, 6.
        Check.due("HOURS 0, 5 and 6", x.wallOf(0, 4), 3);
        Check.due("DAMP", x.wallOf(0, 3), 6);
    }

    private static DampHouse withWall(int hours) {
        DampHouse x = new DampHouse();
        x.wall(0, 0, 0, true);
        x.wall(1, 0, 0, true);
        if (hours > 0) {
            x.hours(hours);
        }
        return x;
    }

    /** "at an HOUR (not behind now" */
    private static void readingNotBehindNow() {
        Check.due("now is 0", withWall(0).reading(0, 0, 0, 0), 0);
        Check.due("behind 0", withWall(0).reading(0, 1, 0, 0), -3);
        Check.due("now is 600", withWall(600).reading(0, 600, 0, 0), 0);
        Check.due("behind 600", withWall(600).reading(0, 601, 0, 0), -3);
        Check.due("long ago", withWall(600).reading(0, 0, 0, 0), 0);
    }

    /** "not ahead of the one ahead)" */
    private static void readingNotAheadOfTheOneAhead() {
        DampHouse x = withWall(20);
        Check.due("the first", x.reading(0, 10, 0, 0), 0);
        Check.due("just ahead", x.reading(0, 9, 0, 0), -3);
        Check.due("just ahead, of another WALL", x.reading(1, 9, 0, 0), -3);
        Check.due("as the one ahead", x.reading(1, 10, 0, 0), 1);
        Check.due("just behind", x.reading(0, 11, 0, 0), 2);
        Check.due("ahead of the last, not of the first", x.reading(0, 10, 0, 0), -3);
    }

    /** "READINGS (60 at most)" */
    private static void sixtyReadings() {
        DampHouse x = withWall(0);
        for (int i = 0; i < 59; i++) {
            x.reading(0, 0, 0, 0);
        }
        Check.due("the 60th, of another WALL", x.reading(1, 0, 5, 0), 59);
        Check.due("the 61st", x.reading(0, 0, 0, 0), -6);
        Check.due("READINGS", x.count(2), 60);
        Check.due("the 60th counts", x.off(0), 5);
    }

    /** OFF of a WALL whose DAMP is 95. */
    private static long off(int v, int doubt) {
        DampHouse x = new DampHouse();
        x.wall(0, 0, 0, true);
        x.cause(1, 0, 99, 0);
        x.hours(1);
        x.reading(0, 1, v, doubt);
        return x.off(1);
    }

    /** "its DAMP was that less DOUBT to that and DOUBT." */
    private static void readingLetsItsEnds() {
        Check.due("just so", off(95, 0), 0);
        Check.due("one less", off(94, 0), 1);
        Check.due("one more", off(96, 0), 1);
        Check.due("the least that is let", off(100, 5), 0);
        Check.due("one below the least", off(101, 5), 1);
        Check.due("the most that is let", off(90, 5), 0);
        Check.due("one above the most", off(89, 5), 1);
    }

    /** "a number (0 .. 99999) and a DOUBT (0 .. 999)" */
    private static void readingOfTheLeastAndMost() {
        Check.due("0", off(0, 0), 95);
        Check.due("0 and 94", off(0, 94), 1);
        Check.due("0 and 95", off(0, 95), 0);
        Check.due("0 and 999", off(0, 999), 0);
        Check.due("99999", off(99999, 0), 99904);
        Check.due("99999 and 999", off(99999, 999), 98905);
        Check.due("1094 less 999", off(1094, 999), 0);
        Check.due("1095 less 999", off(1095, 999), 1);
    }
}
