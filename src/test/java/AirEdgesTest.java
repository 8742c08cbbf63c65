/** Part I of the document, one test a sentence that names an edge: ROOMS, OUTSIDE, HOLDS, MADE, how HOURS pass. */
final class AirEdgesTest {
    public static void main(String[] args) {
        hoursFromNoughtTo600();
        theFirstAndTheLastRoom();
        airAtItsLeastAndMost();
        wetStaysWithin();
        breathStaysWithin();
        missingAsTheLatestAhead();
        missingWithoutAny();
        coldAtItsEnds();
        holdsIsCutTwice();
        holdsBelowNought();
        madeComesAgainEachDay();
        outIsCut();
        lossIsCutTowardNought();
        lossBelowNought();
        lossOfAllAndOfNone();
        justWhatTheAirHolds();
        chillIsCut();
        chillIsNoughtAtLeast();
        sharesAreCut();
        sharesOfTwelveWalls();
        allChillsNought();
        withoutWallsItIsGone();
        Check.finish();
    }

    /** "HOURS go on from 0 (600 at most)." */
    private static void hoursFromNoughtTo600() {
        DampHouse x = new DampHouse();
        Check.due("from 0", x.count(0), 0);
        Check.due("601 at once", x.hours(601), -6);
        Check.due("600 at once", x.hours(600), 600);
        Check.due("the 601st", x.hours(1), -6);
        DampHouse y = new DampHouse();
        y.hours(599);
        Check.due("two more than 599", y.hours(2), -6);
        Check.due("still 599", y.count(0), 599);
        Check.due("the 600th", y.hours(1), 600);
    }

    /** "ROOMS 0 .. 5" */
    private static void theFirstAndTheLastRoom() {
        DampHouse x = new DampHouse();
        x.made(0, 0, 100);
        x.made(5, 0, 200);
        for (int room = 0; room < 6; room++) {
            x.room(room, 2, 0);
        }
        x.hours(1);
        Check.due("ROOM 0", x.wet(0), 100);
        Check.due("ROOM 1", x.wet(1), 0);
        Check.due("ROOM 4", x.wet(4), 0);
        Check.due("ROOM 5", x.wet(5), 200);
    }

    /** "AIR (10 .. 99 units of room; 40 at first), WARMTH (0 .. 30; 18 at first)" */
    private static void airAtItsLeastAndMost() {
        DampHouse x = new DampHouse();
        for (int room = 0; room < 3; room++) {
            x.room(room, 2, 0);
            x.room(room, 5, 99999);
        }
        x.room(1, 0, 10);
        x.room(1, 1, 0);
        x.room(2, 0, 99);
        x.room(2, 1, 30);
        x.hours(1);
        Check.due("40 times HOLDS at 18", x.wet(0), 880);
        Check.due("10 times HOLDS at 0", x.wet(1), 50);
        Check.due("99 times HOLDS at 30", x.wet(2), 4158);
    }

    /** A WALL that gets all that leaves the air; nothing goes through gaps. */
    private static DampHouse closed(int wet) {
        DampHouse x = new DampHouse();
        x.wall(0, 0, 0, false);
        x.room(0, 2, 0);
        x.room(0, 5, wet);
        return x;
    }

    /** "WET (grams; 0 at first; it stays within 0 .. 99999)" */
    private static void wetStaysWithin() {
        int[] wet = {98999, 99000, 99001, 99999};
        // Above 880 are 99118 (dries by 3965) and, thrice, 99119.
        int[] damp = {95153, 95154, 95154, 95154};
        for (int i = 0; i < wet.length; i++) {
            DampHouse x = closed(wet[i]);
            x.made(0, 0, 999);
            x.hours(1);
            Check.due(wet[i] + " and 999", x.wallOf(0, 3), damp[i]);
            Check.due("WET", x.wet(0), 880);
        }
        DampHouse dry = new DampHouse();
        dry.room(0, 0, 10);
        dry.outside(0, 0, -20);
        dry.room(0, 2, 50);
        dry.room(0, 3, 50);
        dry.room(0, 4, 1);
        dry.room(0, 5, 99999);
        dry.hours(1);
        Check.due("no less than OUT", dry.wet(0), 5);
    }

    /** "WET is more by MADE of h modulo 24, and by BREATH that is TRUE", and still within. */
    private static void breathStaysWithin() {
        DampHouse x = closed(99900);
        x.cause(3, 0, 99, 0);
        x.truth(0, true);
        x.hours(1);
        Check.due("just 99999", x.wallOf(0, 3), 95154);
        DampHouse y = closed(99900);
        for (int i = 0; i < 10; i++) {
            y.cause(3, 0, 99, 0);
            y.truth(i, true);
        }
        y.made(0, 0, 999);
        y.hours(1);
        Check.due("ten BREATHS and MADE", y.wallOf(0, 3), 95154);
    }

    /** "missing: as the latest told one ahead" */
    private static void missingAsTheLatestAhead() {
        DampHouse x = new DampHouse();
        x.outside(0, 0, 7);
        x.outside(598, 0, -3);
        Check.due("HOUR 0 as told", x.weather(0, 0), 7);
        Check.due("just behind it", x.weather(1, 0), 7);
        Check.due("just ahead of the next", x.weather(597, 0), 7);
        Check.due("as told", x.weather(598, 0), -3);
        Check.due("the last", x.weather(599, 0), -3);
        x.outside(599, 0, 0);
        Check.due("0 is told, not missing", x.weather(599, 0), 0);
        x.outside(598, 0, 99);
        Check.due("missing again", x.weather(598, 0), 7);
        Check.due("one that is told stays", x.weather(599, 0), 0);
        x.outside(0, 0, 99);
        Check.due("none is ahead", x.weather(598, 0), 5);
        Check.due("one behind does not count", x.weather(0, 0), 5);
    }

    /** "(5, 0 without)" */
    private static void missingWithoutAny() {
        DampHouse x = new DampHouse();
        x.outside(1, 0, 30);
        x.outside(1, 1, 20);
        Check.due("COLD", x.weather(0, 0), 5);
        Check.due("RAIN", x.weather(0, 1), 0);
        Check.due("COLD of HOUR 1", x.weather(1, 0), 30);
        Check.due("RAIN of HOUR 1", x.weather(1, 1), 20);
        Check.due("told as 99, so missing", x.outside(1, 1, 99), 20);
        Check.due("what it was", x.outside(1, 1, 99), 99);
        Check.due("RAIN of HOUR 599", x.weather(599, 1), 0);
    }

    /** "COLD (-20 .. 30)": what comes in at either end. */
    private static void coldAtItsEnds() {
        DampHouse x = new DampHouse();
        x.room(0, 0, 99);
        x.room(0, 1, 30);
        x.room(0, 2, 50);
        x.outside(0, 0, -20);
        x.outside(1, 0, 30);
        x.hours(1);
        // OUT is 99 by 2, cut: 49; half of it comes in, cut.
        Check.due("-20", x.wet(0), 24);
        x.hours(1);
        // OUT is 99 times 42 by 2: 2079; (24 less 2079) by 2, cut toward 0: -1027.
        Check.due("30", x.wet(0), 1051);
    }

    /** "5 and t by 2, cut, and t times t by 40, cut" */
    private static void holdsIsCutTwice() {
        DampHouse x = new DampHouse();
        Check.due("0", x.holds(0), 5);
        Check.due("1 by 2 is 0", x.holds(1), 5);
        Check.due("2 by 2 is 1", x.holds(2), 6);
        Check.due("36 by 40 is 0", x.holds(6), 8);
        Check.due("49 by 40 is 1, 7 by 2 is 3", x.holds(7), 9);
        Check.due("each is cut: 4 and 2", x.holds(9), 11);
        Check.due("400 by 40", x.holds(20), 25);
        Check.due("841 by 40 is 21, 29 by 2 is 14", x.holds(29), 40);
    }

    /** "(t below 0: 5 less the amount by 5, cut, 1 at least)" */
    private static void holdsBelowNought() {
        DampHouse x = new DampHouse();
        int[] warmths = {-1, -4, -5, -9, -10, -14, -15, -19, -20};
        int[] held = {5, 5, 4, 4, 3, 3, 2, 2, 1};
        for (int i = 0; i < warmths.length; i++) {
            Check.due("holds(" + warmths[i] + ")", x.holds(warmths[i]), held[i]);
        }
    }

    /** "MADE in an HOUR of the day (HOUR modulo 24)" */
    private static void madeComesAgainEachDay() {
        DampHouse x = new DampHouse();
        x.room(0, 2, 0);
        x.made(0, 0, 3);
        x.made(0, 23, 20);
        int[] upTo = {1, 23, 24, 25, 47, 48, 49, 576, 577, 599, 600};
        int[] wet = {3, 3, 23, 26, 26, 46, 49, 552, 555, 555, 575};
        int now = 0;
        for (int i = 0; i < upTo.length; i++) {
            now = x.hours(upTo[i] - now);
            Check.due("WET at HOUR " + now, x.wet(0), wet[i]);
        }
    }

    /** A ROOM in which all air goes each HOUR, so that WET is OUT. */
    private static DampHouse open(int air, int cold) {
        DampHouse x = new DampHouse();
        x.room(0, 0, air);
        x.room(0, 2, 50);
        x.room(0, 3, 50);
        x.room(0, 4, 1);
        x.outside(0, 0, cold);
        x.hours(1);
        return x;
    }

    /** "OUT: AIR times HOLDS at COLD of h, by 2, cut" */
    private static void outIsCut() {
        Check.due("55 by 2", open(11, 0).wet(0), 27);
        Check.due("60 by 2", open(12, 0).wet(0), 30);
        Check.due("99 by 2", open(99, -20).wet(0), 49);
        Check.due("10 by 2", open(10, -20).wet(0), 5);
    }

    private static int wetAfter(int wet, int gaps) {
        DampHouse x = new DampHouse();
        x.room(0, 2, gaps);
        x.room(0, 5, wet);
        x.hours(1);
        return x.wet(0);
    }

    /** "LOSS: (WET less OUT) times (..) by 100, cut toward 0": OUT is 140. */
    private static void lossIsCutTowardNought() {
        Check.due("9 by 10", wetAfter(149, 10), 149);
        Check.due("10 by 10", wetAfter(150, 10), 149);
        Check.due("19 by 10", wetAfter(159, 10), 158);
        Check.due("99 hundredths", wetAfter(239, 1), 239);
        Check.due("100 hundredths", wetAfter(240, 1), 239);
        Check.due("1 by 2", wetAfter(141, 50), 141);
        Check.due("as much as OUT", wetAfter(140, 50), 140);
    }

    /** "(below 0 if OUT is more)" */
    private static void lossBelowNought() {
        Check.due("-9 by 10", wetAfter(131, 10), 131);
        Check.due("-10 by 10", wetAfter(130, 10), 131);
        Check.due("-19 by 10", wetAfter(121, 10), 122);
        Check.due("-1 by 2", wetAfter(139, 50), 139);
        Check.due("-140 by 2", wetAfter(0, 50), 70);
    }

    /** "(GAPS and, if it is on, the FAN's hundredths)" */
    private static void lossOfAllAndOfNone() {
        Check.due("no GAPS", wetAfter(880, 0), 880);
        DampHouse x = new DampHouse();
        x.room(0, 2, 0);
        x.room(0, 5, 640);
        x.room(0, 4, 1);
        x.hours(1);
        Check.due("a FAN of 0 that is on", x.wet(0), 640);
        x.room(0, 3, 1);
        x.hours(1);
        Check.due("a FAN of 1 that is on", x.wet(0), 635);
        x.room(0, 4, 0);
        x.hours(1);
        Check.due("a FAN of 1 that is off", x.wet(0), 635);
    }

    /** "What of it is above AIR times HOLDS at WARMTH leaves the air" */
    private static void justWhatTheAirHolds() {
        int[] wet = {879, 880, 881, 882};
        int[] left = {879, 880, 880, 880};
        // One gram dries at once; of two one is left.
        int[] damp = {0, 0, 0, 1};
        for (int i = 0; i < wet.length; i++) {
            DampHouse x = closed(wet[i]);
            x.dry(1);
            x.hours(1);
            Check.due("WET of " + wet[i], x.wet(0), left[i]);
            Check.due("DAMP of " + wet[i], x.wallOf(0, 3), damp[i]);
        }
    }

    private static int chill(int warmth, int cold, int table) {
        DampHouse x = new DampHouse();
        x.room(5, 1, warmth);
        x.outside(0, 0, cold);
        x.wall(11, 5, table, false);
        return x.wallOf(11, 5);
    }

    /** "CHILL of a WALL: (WARMTH less COLD of h) times TABLE by 100, cut" */
    private static void chillIsCut() {
        Check.due("99 hundredths", chill(0, -1, 99), 0);
        Check.due("100 hundredths", chill(0, -1, 100), 1);
        Check.due("just 1 at the warm end", chill(30, 29, 100), 1);
        Check.due("50 times 99", chill(30, -20, 99), 49);
        Check.due("50 times 100", chill(30, -20, 100), 50);
        Check.due("50 times 1", chill(30, -20, 1), 0);
        Check.due("50 times 2", chill(30, -20, 2), 1);
        Check.due("a TABLE of 0", chill(30, -20, 0), 0);
    }

    /** "0 at least" */
    private static void chillIsNoughtAtLeast() {
        Check.due("as warm outside", chill(18, 18, 100), 0);
        Check.due("by 1 warmer outside", chill(18, 19, 100), 0);
        Check.due("by 2 warmer outside", chill(18, 20, 100), 0);
        Check.due("by 30 warmer outside", chill(0, 30, 100), 0);
    }

    /** "as much of it as its CHILL is of all CHILLS together, cut; what is left over .. goes to the least WALL" */
    private static void sharesAreCut() {
        DampHouse x = closed(882);
        x.dry(1);
        x.wall(0, 0, 100, false);
        x.wall(1, 0, 100, false);
        x.wall(2, 0, 100, false);
        x.hours(1);
        Check.due("2 by 3 is 0: both are left over", x.wallOf(0, 3), 1);
        Check.due("nothing", x.wallOf(1, 3), 0);
        DampHouse y = closed(880 + 299);
        y.dry(1);
        y.wall(0, 0, 100, false);
        y.wall(1, 0, 100, false);
        y.wall(2, 0, 100, false);
        y.hours(1);
        // 99 each and 2 left over; 101 dries by 2, 99 by 1.
        Check.due("99 and 2 left over", y.wallOf(0, 3), 99);
        Check.due("99", y.wallOf(1, 3), 98);
        Check.due("99", y.wallOf(2, 3), 98);
    }

    /** All twelve WALLS in one ROOM. */
    private static void sharesOfTwelveWalls() {
        DampHouse x = closed(880 + 1000);
        x.dry(1);
        for (int wall = 0; wall < 12; wall++) {
            x.wall(wall, 0, 100, false);
        }
        x.hours(1);
        // 1000 times 13 by 156 is 83; 4 are left over.
        Check.due("87 less 1", x.wallOf(0, 3), 86);
        for (int wall = 1; wall < 12; wall++) {
            Check.due("83 less 1", x.wallOf(wall, 3), 82);
        }
    }

    /** "(all of it, if all CHILLS are 0)" */
    private static void allChillsNought() {
        DampHouse x = closed(980);
        x.wall(0, 1, 0, false);
        x.wall(10, 0, 0, false);
        x.wall(11, 0, 0, false);
        x.hours(1);
        Check.due("not of this ROOM", x.wallOf(0, 3), 0);
        Check.due("the least of the ROOM", x.wallOf(10, 3), 96);
        Check.due("another", x.wallOf(11, 3), 0);
    }

    /** "without WALLS it is gone" */
    private static void withoutWallsItIsGone() {
        DampHouse x = closed(980);
        x.wall(0, 1, 100, false);
        x.hours(1);
        Check.due("WET", x.wet(0), 880);
        Check.due("of another ROOM", x.wallOf(0, 3), 0);
        x.wall(0, 0, 100, false);
        x.hours(1);
        Check.due("gone for good", x.wallOf(0, 3), 0);
    }
}
