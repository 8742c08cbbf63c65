/** Promises 7 to 10 and 15: WALLS, what the air gives them, DRY, MOULD, and HOURS. */
final class WallsTest {
    public static void main(String[] args) {
        tellingWalls();
        wallRefusals();
        chillNow();
        sharesByChill();
        leftoverToTheLeastWall();
        shareOfTheLastWall();
        warmOutsideGivesAllToTheLeast();
        wallsOfOtherRooms();
        drying();
        mouldInAll();
        cleaning();
        passingHours();
        Check.finish();
    }

    private static void tellingWalls() {
        DampHouse x = new DampHouse();
        Check.due("wall", x.wall(3, 2, 100, true), 1);
        Check.due("its ROOM", x.wallOf(3, 0), 2);
        Check.due("its TABLE", x.wallOf(3, 1), 100);
        Check.due("it is OUTER", x.wallOf(3, 2), 1);
        Check.due("WALLS told", x.count(1), 1);
        x.cause(1, 3, 99, 0);
        x.truth(0, true);
        x.hours(2);
        // 99 less 4; 194 less 8.
        Check.due("its DAMP", x.wallOf(3, 3), 186);
        Check.due("its MOULD", x.wallOf(3, 4), 2);
        Check.due("told anew", x.wall(3, 0, 0, false), 0);
        Check.due("ROOM anew", x.wallOf(3, 0), 0);
        Check.due("TABLE anew", x.wallOf(3, 1), 0);
        Check.due("OUTER anew", x.wallOf(3, 2), 0);
        Check.due("DAMP stays", x.wallOf(3, 3), 186);
        Check.due("MOULD stays", x.wallOf(3, 4), 2);
        Check.due("still one WALL", x.count(1), 1);
        Check.due("the last wall", x.wall(11, 5, 0, true), 1);
        Check.due("the first wall", x.wall(0, 5, 0, true), 1);
        Check.due("three WALLS", x.count(1), 3);
    }

    private static void wallRefusals() {
        DampHouse x = new DampHouse();
        Check.due("no such wall, below", x.wall(-1, 0, 0, true), -1);
        Check.due("no such wall, above", x.wall(12, 0, 101, true), -1);
        Check.due("no such room, below", x.wall(0, -1, -1, true), -1);
        Check.due("no such room, above", x.wall(0, 6, 0, true), -1);
        Check.due("table below", x.wall(0, 0, -1, true), -4);
        Check.due("table above", x.wall(0, 0, 101, true), -6);
        Check.due("not told", x.wallOf(0, 0), -9);
        Check.due("no WALLS", x.count(1), 0);
        Check.due("wallOf: wall below", x.wallOf(-1, 0), -1);
        Check.due("wallOf: wall above, -1 ahead of -2", x.wallOf(12, 6), -1);
        Check.due("wallOf: what above", x.wallOf(0, 6), -2);
        Check.due("wallOf: what below", x.wallOf(0, -1), -2);
        Check.due("refusals -1", x.count(11), 6);
        Check.due("refusals -2", x.count(12), 2);
        Check.due("refusals -4", x.count(14), 1);
        Check.due("refusals -6", x.count(16), 1);
    }

    private static void chillNow() {
        DampHouse x = new DampHouse();
        Check.due("not told", x.wallOf(0, 5), 0);
        x.wall(0, 0, 33, false);
        Check.due("13 by 33 hundredths, cut", x.wallOf(0, 5), 4);
        x.outside(1, 0, 30);
        x.outside(2, 0, -20);
        x.hours(1);
        Check.due("warmer outside: 0 at least", x.wallOf(0, 5), 0);
        x.hours(1);
        Check.due("38 by 33 hundredths, cut", x.wallOf(0, 5), 12);
        x.room(0, 1, 0);
        Check.due("20 by 33 hundredths, cut", x.wallOf(0, 5), 6);
        x.hours(598);
        Check.due("at HOUR 600 as the latest told", x.wallOf(0, 5), 6);
    }

    /** A ROOM that gives off exactly the grams told, as nothing goes through its gaps. */
    private static DampHouse giving(int grams) {
        DampHouse x = new DampHouse();
        x.room(0, 2, 0);
        x.room(0, 5, 880 + grams);
        x.dry(1);
        return x;
    }

    private static void sharesByChill() {
        DampHouse x = giving(100);
        x.wall(1, 0, 100, true);
        x.wall(2, 0, 50, false);
        x.hours(1);
        // CHILLS 13 and 6: 68 and 31, and 1 left over to WALL 1; each dries by 1.
        Check.due("wet", x.wet(0), 880);
        Check.due("the colder wall and what is left over", x.wallOf(1, 3), 68);
        Check.due("the other wall", x.wallOf(2, 3), 30);
    }

    private static void leftoverToTheLeastWall() {
        DampHouse x = giving(200);
        x.wall(9, 0, 100, true);
        x.wall(5, 0, 0, false);
        x.wall(7, 0, 100, false);
        x.wall(8, 0, 100, false);
        x.hours(1);
        // CHILLS 0, 13, 13, 13: 66 each, 2 left over to WALL 5.
        Check.due("the least wall", x.wallOf(5, 3), 1);
        Check.due("a share", x.wallOf(7, 3), 65);
        Check.due("a share", x.wallOf(8, 3), 65);
        Check.due("a share", x.wallOf(9, 3), 65);
    }

    private static void shareOfTheLastWall() {
        DampHouse x = giving(90);
        x.wall(0, 0, 50, true);
        x.wall(11, 0, 100, true);
        x.hours(1);
        // CHILLS 6 and 13: 28 and 61, and 1 left over to WALL 0; each dries by 1.
        Check.due("the first wall", x.wallOf(0, 3), 28);
        Check.due("the last wall", x.wallOf(11, 3), 60);
        DampHouse y = giving(90);
        y.wall(3, 0, 0, true);
        y.wall(5, 0, 8, true);
        y.hours(1);
        Check.due("no CHILL, nothing left over", y.wallOf(3, 3), 0);
        Check.due("the only CHILL, though just 1", y.wallOf(5, 3), 89);
        DampHouse z = giving(90);
        z.wall(11, 0, 0, true);
        z.hours(1);
        Check.due("the only wall", z.wallOf(11, 3), 89);
    }

    private static void warmOutsideGivesAllToTheLeast() {
        DampHouse x = giving(100);
        x.outside(0, 0, 30);
        x.wall(4, 0, 100, true);
        x.wall(6, 0, 50, true);
        x.hours(1);
        Check.due("all of it", x.wallOf(4, 3), 99);
        Check.due("none of it", x.wallOf(6, 3), 0);
    }

    private static void wallsOfOtherRooms() {
        DampHouse x = giving(100);
        x.wall(0, 1, 100, true);
        x.hours(1);
        Check.due("wet is gone", x.wet(0), 880);
        Check.due("a wall of another room gets nothing", x.wallOf(0, 3), 0);
        DampHouse y = giving(100);
        y.wall(0, 1, 100, true);
        y.wall(1, 0, 100, true);
        y.hours(1);
        Check.due("a wall of another room gets nothing", y.wallOf(0, 3), 0);
        Check.due("all of it", y.wallOf(1, 3), 99);
    }

    private static void drying() {
        DampHouse x = new DampHouse();
        x.wall(0, 0, 0, false);
        x.cause(1, 0, 99, 0);
        x.truth(0, true);
        x.hours(1);
        Check.due("4 hundredths of 99, rounded up", x.wallOf(0, 3), 95);
        x.truth(0, false);
        Check.due("dry", x.dry(50), 4);
        x.hours(1);
        Check.due("half of 95, rounded up", x.wallOf(0, 3), 47);
        Check.due("dry", x.dry(1), 50);
        x.hours(1);
        Check.due("a hundredth of 47, rounded up", x.wallOf(0, 3), 46);
        Check.due("dry below", x.dry(0), -4);
        Check.due("dry above", x.dry(51), -6);
        Check.due("dry is as it was", x.dry(1), 1);
        x.hours(60);
        Check.due("dry at last", x.wallOf(0, 3), 0);
        Check.due("refusals -4", x.count(14), 1);
        Check.due("refusals -6", x.count(16), 1);
    }

    private static void mouldInAll() {
        DampHouse x = new DampHouse();
        x.wall(0, 0, 0, false);
        x.dry(50);
        // 99 rounds to 49; then (49 + 99) / 2 = 74.
        x.cause(1, 0, 99, 0);
        x.truth(0, true);
        x.hours(1);
        Check.due("49 as the HOUR ended", x.wallOf(0, 4), 0);
        x.hours(1);
        Check.due("74 as the HOUR ended", x.wallOf(0, 4), 1);
        x.truth(0, false);
        x.hours(1);
        Check.due("37 as the HOUR ended: MOULD stays", x.wallOf(0, 4), 1);
        x.truth(0, true);
        x.hours(1);
        Check.due("68 as the HOUR ended", x.wallOf(0, 4), 2);
        DampHouse y = new DampHouse();
        y.wall(0, 0, 0, false);
        y.dry(1);
        y.cause(1, 0, 51, 0);
        y.truth(0, true);
        y.hours(1);
        Check.due("just 50", y.wallOf(0, 3), 50);
        Check.due("just 50 counts", y.wallOf(0, 4), 1);
    }

    private static void cleaning() {
        DampHouse x = new DampHouse();
        x.wall(0, 0, 0, false);
        x.cause(1, 0, 99, 0);
        x.truth(0, true);
        x.hours(3);
        int damp = x.wallOf(0, 3);
        Check.due("clean", x.clean(0), 3);
        Check.due("its MOULD is 0", x.wallOf(0, 4), 0);
        Check.due("its DAMP is as it was", x.wallOf(0, 3), damp);
        x.hours(1);
        Check.due("MOULD again", x.clean(0), 1);
        Check.due("a wall that is not told", x.clean(11), 0);
        Check.due("no such wall, above", x.clean(12), -1);
        Check.due("no such wall, below", x.clean(-1), -1);
        Check.due("refusals -1", x.count(11), 2);
    }

    private static void passingHours() {
        DampHouse x = new DampHouse();
        Check.due("none", x.hours(0), -4);
        Check.due("below", x.hours(Integer.MIN_VALUE), -4);
        Check.due("above", x.hours(601), -6);
        Check.due("far above", x.hours(Integer.MAX_VALUE), -6);
        Check.due("still 0", x.count(0), 0);
        Check.due("one", x.hours(1), 1);
        Check.due("above 600", x.hours(600), -6);
        Check.due("to 600", x.hours(599), 600);
        Check.due("no more", x.hours(1), -6);
        Check.due("HOUR", x.count(0), 600);
        Check.due("refusals -4", x.count(14), 2);
        Check.due("refusals -6", x.count(16), 4);
    }
}
