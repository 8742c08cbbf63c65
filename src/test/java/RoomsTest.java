/** Promises 1 to 6 and 11: a new object, ROOMS, MADE, OUTSIDE, HOLDS, WET, and how air passes an HOUR. */
final class RoomsTest {
    public static void main(String[] args) {
        newObject();
        roomSettings();
        roomRefusals();
        madeOfTheDay();
        outsideAndWeather();
        outsideRefusals();
        holdsAtAllWarmths();
        lossThroughGaps();
        lossThroughFan();
        lossBelowNothing();
        wetHasAMost();
        Check.finish();
    }

    private static void newObject() {
        DampHouse x = new DampHouse();
        int[] first = {40, 18, 10, 0, 0, 0};
        int[] least = {10, 0, 0, 0, 0, 0};
        for (int r = 0; r < 6; r++) {
            Check.due("wet of a new room", x.wet(r), 0);
            for (int what = 0; what < 6; what++) {
                Check.due("room " + r + " what " + what + " at first", x.room(r, what, least[what]), first[what]);
            }
            for (int h = 0; h < 24; h++) {
                Check.due("made at first", x.made(r, h, 0), 0);
            }
        }
        for (int what = 0; what <= 16; what++) {
            Check.due("count " + what + " at first", x.count(what), what == 10 ? -9 : 0);
        }
        int[] wallAtFirst = {-9, 0, 0, 0, 0, 0};
        for (int w = 0; w < 12; w++) {
            for (int what = 0; what < 6; what++) {
                Check.due("wallOf what " + what + " at first", x.wallOf(w, what), wallAtFirst[what]);
            }
        }
        Check.due("DRY at first", x.dry(4), 4);
        Check.due("no CHILD at first", x.child(false), 0);
        Check.due("best of no CAUSES", x.best(), 0);
        Check.due("rivals of no CAUSES", x.rivals(), 1);
        Check.due("next of no LOOKS", x.next(), -9);
        Check.due("plan of no LOOKS", x.plan(), 0);
    }

    private static void roomSettings() {
        DampHouse x = new DampHouse();
        int[] most = {99, 30, 50, 50, 1, 99999};
        int[] least = {10, 0, 0, 0, 0, 0};
        int[] first = {40, 18, 10, 0, 0, 0};
        for (int what = 0; what < 6; what++) {
            Check.due("room to its most", x.room(5, what, most[what]), first[what]);
            Check.due("room to its least", x.room(5, what, least[what]), most[what]);
            Check.due("room was its least", x.room(5, what, least[what]), least[what]);
            Check.due("another room is its own", x.room(4, what, first[what]), first[what]);
        }
        x.room(2, 5, 777);
        Check.due("wet as told", x.wet(2), 777);
        Check.due("wet of another room", x.wet(3), 0);
        Check.due("wet below the rooms", x.wet(-1), -1);
        Check.due("wet above the rooms", x.wet(6), -1);
        Check.due("refusals -1", x.count(11), 2);
    }

    private static void roomRefusals() {
        DampHouse x = new DampHouse();
        int[] most = {99, 30, 50, 50, 1, 99999};
        int[] least = {10, 0, 0, 0, 0, 0};
        for (int what = 0; what < 6; what++) {
            Check.due("room above its most", x.room(0, what, most[what] + 1), -6);
            Check.due("room below its least", x.room(0, what, least[what] - 1), -4);
        }
        Check.due("-1 ahead of -2", x.room(6, 6, -1), -1);
        Check.due("-1 below", x.room(-1, 0, 40), -1);
        Check.due("-2 ahead of -4", x.room(0, 6, -1), -2);
        Check.due("-2 below", x.room(0, -1, 40), -2);
        Check.due("a refused call changes nothing", x.room(0, 0, 40), 40);
        Check.due("refusals -6", x.count(16), 6);
        Check.due("refusals -4", x.count(14), 6);
        Check.due("refusals -1", x.count(11), 2);
        Check.due("refusals -2", x.count(12), 2);
    }

    private static void madeOfTheDay() {
        DampHouse x = new DampHouse();
        Check.due("made", x.made(0, 23, 999), 0);
        Check.due("made was", x.made(0, 23, 100), 999);
        Check.due("made of another hour", x.made(0, 22, 0), 0);
        Check.due("made of another room", x.made(1, 23, 0), 0);
        Check.due("made: no such room, below", x.made(-1, 0, 0), -1);
        Check.due("made: no such room, above", x.made(6, 0, -1), -1);
        Check.due("made: no such hour, below", x.made(0, -1, 1000), -1);
        Check.due("made: no such hour, above", x.made(0, 24, 0), -1);
        Check.due("made: below", x.made(0, 0, -1), -4);
        Check.due("made: above", x.made(0, 0, 1000), -6);
        x.room(0, 2, 0);
        x.hours(23);
        Check.due("nothing made yet", x.wet(0), 0);
        x.hours(1);
        Check.due("made in hour 23", x.wet(0), 100);
        x.hours(24);
        Check.due("made in hour 47 too", x.wet(0), 200);
    }

    private static void outsideAndWeather() {
        DampHouse x = new DampHouse();
        Check.due("cold without any", x.weather(0, 0), 5);
        Check.due("rain without any", x.weather(599, 1), 0);
        Check.due("outside", x.outside(10, 0, -20), 99);
        Check.due("outside", x.outside(20, 0, 30), 99);
        Check.due("outside", x.outside(10, 1, 20), 99);
        Check.due("ahead of all told", x.weather(9, 0), 5);
        Check.due("as told", x.weather(10, 0), -20);
        Check.due("missing: the latest ahead", x.weather(19, 0), -20);
        Check.due("as told", x.weather(20, 0), 30);
        Check.due("missing: the latest ahead", x.weather(599, 0), 30);
        Check.due("rain on its own", x.weather(9, 1), 0);
        Check.due("rain on its own", x.weather(599, 1), 20);
        Check.due("told anew", x.outside(10, 0, 3), -20);
        Check.due("counts at once", x.weather(15, 0), 3);
        Check.due("made missing", x.outside(20, 0, 99), 30);
        Check.due("missing again", x.weather(25, 0), 3);
        Check.due("was missing", x.outside(20, 0, 99), 99);
        x.outside(11, 0, 7);
        Check.due("made missing just behind", x.outside(11, 0, 99), 7);
        Check.due("as the HOUR ahead", x.weather(11, 0), 3);
        Check.due("first hour", x.outside(0, 0, 0), 99);
        Check.due("from the first hour", x.weather(9, 0), 0);
        Check.due("last hour", x.outside(599, 1, 0), 99);
        Check.due("at the last hour", x.weather(599, 1), 0);
        Check.due("ahead of the last hour", x.weather(598, 1), 20);
        Check.due("rain missing", x.outside(10, 1, 99), 20);
        Check.due("rain missing", x.weather(598, 1), 0);
    }

    private static void outsideRefusals() {
        DampHouse x = new DampHouse();
        Check.due("what above", x.outside(-1, 2, -99), 1000000002);
        Check.due("what below", x.outside(0, -1, 0), 1000000002);
        Check.due("hour below", x.outside(-1, 0, 0), 1000000004);
        Check.due("hour above", x.outside(600, 0, 0), 1000000006);
        Check.due("too cold", x.outside(0, 0, -21), 1000000004);
        Check.due("too warm", x.outside(0, 0, 31), 1000000006);
        Check.due("not yet missing", x.outside(0, 0, 98), 1000000006);
        Check.due("above missing", x.outside(0, 0, 100), 1000000006);
        Check.due("rain below", x.outside(0, 1, -1), 1000000004);
        Check.due("rain above", x.outside(0, 1, 21), 1000000006);
        Check.due("-4 of v ahead of -6 of hour", x.outside(600, 0, -21), 1000000004);
        Check.due("-4 of v ahead of -6 of hour", x.outside(600, 1, -1), 1000000004);
        Check.due("-4 of v ahead of -6 of hour", x.outside(52772284, 0, -469447762), 1000000004);
        Check.due("-4 of hour ahead of -6 of v", x.outside(-1, 0, 31), 1000000004);
        Check.due("-4 of hour ahead of -6 of v", x.outside(-1, 1, 21), 1000000004);
        Check.due("weather: what", x.weather(-1, 2), 1000000002);
        Check.due("weather: what", x.weather(0, -1), 1000000002);
        Check.due("weather: hour below", x.weather(-1, 0), 1000000004);
        Check.due("weather: hour above", x.weather(600, 1), 1000000006);
        Check.due("nothing told", x.weather(0, 0), 5);
        Check.due("refusals -2", x.count(12), 4);
        Check.due("refusals -4", x.count(14), 9);
        Check.due("refusals -6", x.count(16), 6);
    }

    private static void holdsAtAllWarmths() {
        DampHouse x = new DampHouse();
        int[] cold = {1, 2, 2, 2, 2, 2, 3, 3, 3, 3, 3, 4, 4, 4, 4, 4, 5, 5, 5, 5};
        for (int t = -20; t < 0; t++) {
            Check.due("holds(" + t + ")", x.holds(t), cold[t + 20]);
        }
        int[] warm = {5, 5, 6, 6, 7, 7, 8, 9, 10, 11, 12, 13, 14, 15, 16, 17, 19, 20, 22, 23, 25,
            26, 28, 29, 31, 32, 34, 36, 38, 40, 42};
        for (int t = 0; t <= 30; t++) {
            Check.due("holds(" + t + ")", x.holds(t), warm[t]);
        }
        Check.due("holds below", x.holds(-21), -4);
        Check.due("holds above", x.holds(31), -6);
        Check.due("refusals -4", x.count(14), 1);
        Check.due("refusals -6", x.count(16), 1);
    }

    private static void lossThroughGaps() {
        DampHouse x = new DampHouse();
        x.room(0, 5, 800);
        x.hours(1);
        // OUT is 40 * 7 / 2 = 140; LOSS is 660 * 10 / 100 = 66.
        Check.due("wet after a loss", x.wet(0), 734);
        x.hours(1);
        Check.due("the loss is cut: 594 by 10", x.wet(0), 675);
        DampHouse y = new DampHouse();
        y.room(3, 0, 11);
        y.room(3, 2, 50);
        y.outside(0, 0, 0);
        y.hours(1);
        // OUT is 55 / 2 = 27 cut; LOSS is -27 * 50 / 100 = -13 cut toward 0.
        Check.due("a loss below 0", y.wet(3), 13);
    }

    private static void lossThroughFan() {
        DampHouse x = new DampHouse();
        x.room(0, 5, 740);
        x.room(0, 3, 40);
        x.hours(1);
        Check.due("a fan that is off", x.wet(0), 680);
        x.room(0, 4, 1);
        x.hours(1);
        Check.due("a fan that is on: 540 by 2", x.wet(0), 410);
        x.room(0, 2, 50);
        x.room(0, 3, 50);
        x.hours(1);
        Check.due("all of it", x.wet(0), 140);
    }

    private static void lossBelowNothing() {
        DampHouse x = new DampHouse();
        x.room(0, 0, 10);
        x.room(0, 1, 0);
        x.room(0, 2, 50);
        x.room(0, 3, 50);
        x.room(0, 4, 1);
        x.outside(0, 0, 30);
        x.hours(1);
        // OUT is 10 * 42 / 2 = 210, but the air holds only 10 * 5.
        Check.due("without WALLS what is above is gone", x.wet(0), 50);
    }

    private static void wetHasAMost() {
        DampHouse x = new DampHouse();
        x.wall(0, 0, 0, false);
        x.room(0, 2, 0);
        x.room(0, 5, 99999);
        x.made(0, 0, 999);
        x.hours(1);
        // WET stays 99999; above 880 are 99119 that go to the WALL, which dries by 3965 (rounded up).
        Check.due("wet", x.wet(0), 880);
        Check.due("damp", x.wallOf(0, 3), 95154);
    }
}
