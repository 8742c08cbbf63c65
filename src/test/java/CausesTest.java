/** Promises 12 to 14: READINGS, CAUSES, and what is TRUE; and how the CAUSES act (III). */
final class CausesTest {
    public static void main(String[] args) {
        readings();
        readingRefusals();
        sixtyReadings();
        causes();
        causeRefusals();
        tenCauses();
        truths();
        rain();
        rainOnAWallToldAnew();
        pipeFromAnHourOn();
        groundInEarlyHours();
        breath();
        dampHasAMost();
        Check.finish();
    }

    private static DampHouse withWall() {
        DampHouse x = new DampHouse();
        x.wall(0, 0, 0, true);
        return x;
    }

    private static void readings() {
        DampHouse x = withWall();
        x.wall(1, 0, 0, true);
        Check.due("a reading now", x.reading(0, 0, 0, 0), 0);
        x.hours(10);
        Check.due("a reading of the past", x.reading(1, 5, 99999, 999), 1);
        Check.due("a reading of the same hour", x.reading(0, 5, 99999, 999), 2);
        Check.due("a reading now", x.reading(0, 10, 1, 1), 3);
        Check.due("READINGS", x.count(2), 4);
    }

    private static void readingRefusals() {
        DampHouse x = withWall();
        x.hours(10);
        Check.due("no such wall, below", x.reading(-1, 11, -1, 0), -1);
        Check.due("no such wall, above", x.reading(12, 5, 0, 0), -1);
        Check.due("a wall that is not told", x.reading(1, 5, 0, 0), -1);
        Check.due("behind now, ahead of -4", x.reading(0, 11, -1, 0), -3);
        Check.due("far behind now", x.reading(0, Integer.MAX_VALUE, 0, 0), -3);
        Check.due("an hour below", x.reading(0, -1, 0, 0), -4);
        Check.due("a number below, ahead of -6", x.reading(0, 5, -1, 1000), -4);
        Check.due("a doubt below, ahead of -6", x.reading(0, 5, 100000, -1), -4);
        Check.due("a number above", x.reading(0, 5, 100000, 0), -6);
        Check.due("a doubt above", x.reading(0, 5, 0, 1000), -6);
        Check.due("no reading yet", x.reading(0, 5, 0, 0), 0);
        Check.due("ahead of the one ahead", x.reading(0, 4, 0, 0), -3);
        Check.due("of another wall, too", x.wall(2, 0, 0, false), 1);
        Check.due("of another wall, too", x.reading(2, 4, 0, 0), -3);
        Check.due("an hour below is ahead of the one ahead", x.reading(0, -1, -1, 0), -3);
        Check.due("READINGS", x.count(2), 1);
        Check.due("refusals -1", x.count(11), 3);
        Check.due("refusals -3", x.count(13), 5);
        Check.due("refusals -4", x.count(14), 3);
        Check.due("refusals -6", x.count(16), 2);
    }

    private static void sixtyReadings() {
        DampHouse x = withWall();
        x.wall(1, 0, 0, true);
        x.hours(1);
        for (int i = 0; i < 60; i++) {
            Check.due("its number", x.reading(i % 2, i / 40, i, 0), i);
        }
        Check.due("-3 ahead of no room", x.reading(0, 0, 0, 0), -3);
        Check.due("no room", x.reading(0, 1, 0, 0), -6);
        Check.due("READINGS", x.count(2), 60);
        Check.due("-4 ahead of no room", x.reading(0, 1, -1, 0), -4);
    }

    private static void causes() {
        DampHouse x = withWall();
        x.wall(1, 0, 0, false);
        Check.due("rain", x.cause(0, 0, 1, 0), 0);
        Check.due("pipe", x.cause(1, 1, 99, 600), 1);
        Check.due("ground", x.cause(2, 1, 50, 1), 2);
        Check.due("breath of a room without walls", x.cause(3, 5, 50, 1), 3);
        Check.due("CAUSES", x.count(3), 4);
        Check.due("none is TRUE", x.count(4), 0);
    }

    private static void causeRefusals() {
        DampHouse x = withWall();
        x.wall(1, 0, 0, false);
        Check.due("kind below, ahead of -1", x.cause(-1, 12, 0, 0), -2);
        Check.due("kind above", x.cause(4, 0, 1, 0), -2);
        Check.due("no such wall, below", x.cause(1, -1, 1, 0), -1);
        Check.due("no such wall, above, ahead of -4", x.cause(1, 12, 0, 0), -1);
        Check.due("not told", x.cause(1, 2, 1, 0), -1);
        Check.due("not told", x.cause(2, 2, 1, 0), -1);
        Check.due("not OUTER", x.cause(0, 1, 1, 0), -1);
        Check.due("no such room, above", x.cause(3, 6, 1, 0), -1);
        Check.due("no such room, below", x.cause(3, -1, 1, 0), -1);
        Check.due("power below", x.cause(1, 0, 0, 0), -4);
        Check.due("hour below, ahead of -6", x.cause(1, 0, 100, -1), -4);
        Check.due("power above", x.cause(1, 0, 100, 0), -6);
        Check.due("hour above", x.cause(1, 0, 1, 601), -6);
        Check.due("no CAUSES", x.count(3), 0);
        Check.due("refusals -1", x.count(11), 7);
        Check.due("refusals -2", x.count(12), 2);
        Check.due("refusals -4", x.count(14), 2);
        Check.due("refusals -6", x.count(16), 2);
    }

    private static void tenCauses() {
        DampHouse x = withWall();
        for (int i = 0; i < 10; i++) {
            Check.due("its number", x.cause(1, 0, 1, 0), i);
        }
        Check.due("no room", x.cause(1, 0, 1, 0), -6);
        Check.due("-4 ahead of no room", x.cause(1, 0, 0, 0), -4);
        Check.due("CAUSES", x.count(3), 10);
        Check.due("the last is there", x.truth(9, true), 1);
        Check.due("no more", x.truth(10, true), -1);
        x.hours(1);
        Check.due("the last acts", x.wallOf(0, 3), 0);
        x.truth(8, true);
        x.hours(1);
        Check.due("two act: 2 less 1", x.wallOf(0, 3), 1);
    }

    private static void truths() {
        DampHouse x = withWall();
        x.cause(1, 0, 10, 0);
        x.cause(1, 0, 10, 0);
        Check.due("not TRUE at first", x.truth(0, false), 0);
        Check.due("TRUE", x.truth(0, true), 1);
        Check.due("it was", x.truth(0, true), 0);
        Check.due("TRUE ones", x.count(4), 1);
        Check.due("the other", x.truth(1, true), 1);
        Check.due("TRUE ones", x.count(4), 2);
        Check.due("not TRUE", x.truth(0, false), 1);
        Check.due("TRUE ones", x.count(4), 1);
        Check.due("no such cause", x.truth(2, true), -1);
        Check.due("no such cause", x.truth(-1, true), -1);
        Check.due("refusals -1", x.count(11), 2);
        x.hours(1);
        Check.due("only the TRUE one", x.wallOf(0, 3), 9);
    }

    private static void rain() {
        DampHouse x = withWall();
        x.wall(1, 0, 0, true);
        x.cause(0, 1, 10, 0);
        x.truth(0, true);
        x.outside(1, 1, 20);
        x.hours(1);
        Check.due("no rain yet", x.wallOf(1, 3), 0);
        x.hours(1);
        Check.due("20 times 10 less 8", x.wallOf(1, 3), 192);
        Check.due("not the other wall", x.wallOf(0, 3), 0);
        x.hours(1);
        Check.due("missing: it rains on: 392 less 16", x.wallOf(1, 3), 376);
    }

    private static void rainOnAWallToldAnew() {
        DampHouse x = withWall();
        x.cause(0, 0, 10, 0);
        x.truth(0, true);
        x.outside(0, 1, 10);
        x.hours(1);
        Check.due("100 less 4", x.wallOf(0, 3), 96);
        x.wall(0, 0, 0, false);
        x.hours(1);
        Check.due("no OUTER WALL any more: 96 less 4", x.wallOf(0, 3), 92);
        Check.due("by THE TALE, too", x.tale(1, 0), 0);
    }

    private static void pipeFromAnHourOn() {
        DampHouse x = withWall();
        x.cause(1, 0, 50, 2);
        x.truth(0, true);
        x.hours(2);
        Check.due("not yet", x.wallOf(0, 3), 0);
        x.hours(1);
        Check.due("from HOUR 2 on: 50 less 2", x.wallOf(0, 3), 48);
    }

    private static void groundInEarlyHours() {
        DampHouse x = withWall();
        x.dry(50);
        x.cause(2, 0, 99, 0);
        x.truth(0, true);
        x.hours(6);
        int damp = x.wallOf(0, 3);
        x.hours(1);
        Check.due("not in HOUR 6", x.wallOf(0, 3), damp / 2);
        x.hours(17);
        Check.due("dry", x.wallOf(0, 3), 0);
        x.hours(1);
        Check.due("in HOUR 24 again", x.wallOf(0, 3), 49);
        DampHouse y = withWall();
        y.cause(2, 0, 99, 5);
        y.truth(0, true);
        y.hours(6);
        Check.due("in HOUR 5", y.wallOf(0, 3), 95);
    }

    private static void breath() {
        DampHouse x = withWall();
        x.room(1, 2, 0);
        x.cause(3, 1, 40, 1);
        x.cause(3, 1, 2, 0);
        x.truth(0, true);
        x.truth(1, true);
        x.hours(1);
        Check.due("from HOUR 1 on", x.wet(1), 2);
        x.made(1, 1, 500);
        x.hours(1);
        Check.due("with what is MADE", x.wet(1), 544);
        Check.due("not in another room", x.wet(2), 26);
    }

    private static void dampHasAMost() {
        DampHouse x = withWall();
        x.room(0, 2, 0);
        x.room(0, 0, 10);
        x.room(0, 1, 0);
        x.room(0, 5, 99999);
        x.outside(0, 0, 30);
        x.outside(0, 1, 20);
        x.cause(0, 0, 99, 0);
        x.truth(0, true);
        x.hours(1);
        // 99949 and 1980 are 99999 at most; it dries by 4000.
        Check.due("damp within 99999", x.wallOf(0, 3), 95999);
    }
}
