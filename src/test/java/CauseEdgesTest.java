/** Part III of the document, one test a sentence that names an edge: CAUSES, THE TALE, FITS, OFF, SIMPLE and BEST. */
final class CauseEdgesTest {
    public static void main(String[] args) {
        tenCauses();
        rainAtItsLeastAndMost();
        pipeAtItsLeastAndMost();
        groundBelowSix();
        breathInARoomWithoutWalls();
        fromOneHourOn();
        fromTheLastHourOn();
        asLongAsTheyAreTrue();
        taleBeforeAnyHour();
        taleOfAllHours();
        taleOfTheFirstSixAlone();
        taleFromNothing();
        setsWithoutCauses();
        setsOfSixAndMore();
        readingAtHourNought();
        readingAtTheLastHour();
        offOfNoReadings();
        offAsFarAsCanBe();
        madeAfterOffWasAsked();
        simpleOfAllOrNothing();
        bestOfEquals();
        bestOfTheFirstSixAlone();
        Check.finish();
    }

    private static DampHouse withWall() {
        DampHouse x = new DampHouse();
        x.wall(0, 0, 0, true);
        return x;
    }

    /** "CAUSES have numbers from 0 on (10 at most)" */
    private static void tenCauses() {
        DampHouse x = withWall();
        Check.due("no CAUSE is there", x.truth(0, true), -1);
        for (int i = 0; i < 10; i++) {
            Check.due("from 0 on", x.cause(3, 0, 1, 0), i);
            Check.due("its number", x.truth(i, true), 1);
            Check.due("not the next", x.truth(i + 1, true), -1);
        }
        Check.due("the 11th", x.cause(3, 0, 1, 0), -6);
        Check.due("all are TRUE", x.count(4), 10);
        x.room(0, 2, 0);
        x.hours(1);
        Check.due("all act", x.wet(0), 10);
    }

    /** "0 RAIN: an OUTER WALL's DAMP is more by its POWER (1 .. 99) times RAIN of each HOUR" */
    private static void rainAtItsLeastAndMost() {
        DampHouse x = withWall();
        x.wall(1, 0, 0, true);
        x.cause(0, 0, 1, 0);
        x.cause(0, 1, 99, 0);
        x.truth(0, true);
        x.truth(1, true);
        x.hours(1);
        Check.due("no RAIN", x.wallOf(1, 3), 0);
        x.outside(1, 1, 1);
        x.hours(1);
        Check.due("1 times 1, dried at once", x.wallOf(0, 3), 0);
        Check.due("99 times 1 less 4", x.wallOf(1, 3), 95);
        x.outside(2, 1, 20);
        x.hours(1);
        Check.due("1 times 20 less 1", x.wallOf(0, 3), 19);
        Check.due("95 and 99 times 20, less 83", x.wallOf(1, 3), 1992);
    }

    /** "1 PIPE: a WALL's DAMP by POWER each HOUR" */
    private static void pipeAtItsLeastAndMost() {
        DampHouse x = withWall();
        x.wall(11, 5, 0, false);
        x.dry(1);
        x.cause(1, 0, 1, 0);
        x.cause(1, 11, 99, 0);
        x.truth(0, true);
        x.truth(1, true);
        x.hours(1);
        Check.due("1 less 1", x.wallOf(0, 3), 0);
        Check.due("99 less 1", x.wallOf(11, 3), 98);
    }

    /** "2 GROUND: a WALL's by POWER in each HOUR whose number modulo 24 is below 6" */
    private static void groundBelowSix() {
        DampHouse x = withWall();
        x.dry(50);
        x.cause(2, 0, 99, 0);
        x.truth(0, true);
        int damp = 0;
        for (int hour = 0; hour < 200; hour++) {
            x.hours(1);
            damp = (damp + (hour % 24 <= 5 ? 99 : 0)) / 2;
            Check.due("behind HOUR " + hour, x.wallOf(0, 3), damp);
        }
        Check.due("by THE TALE, too", x.tale(1, 0), damp);
    }

    /** "3 BREATH: a ROOM's MADE is more by POWER each HOUR" */
    private static void breathInARoomWithoutWalls() {
        DampHouse x = withWall();
        x.room(5, 2, 0);
        x.cause(3, 5, 99, 0);
        x.truth(0, true);
        x.hours(25);
        Check.due("99 each HOUR, above 880 it is gone", x.wet(5), 880);
        Check.due("THE TALE of a WALL elsewhere", x.tale(1, 0), 0);
        DampHouse y = withWall();
        y.room(5, 2, 0);
        y.cause(3, 5, 1, 0);
        y.truth(0, true);
        y.hours(24);
        Check.due("1 each HOUR", y.wet(5), 24);
    }

    /** "They act in HOURS from one on (told)" */
    private static void fromOneHourOn() {
        for (int kind = 0; kind < 4; kind++) {
            for (int from : new int[] {0, 1, 5}) {
                DampHouse x = withWall();
                x.room(1, 2, 0);
                x.outside(0, 1, 1);
                x.cause(kind, kind == 3 ? 1 : 0, 50, from);
                x.truth(0, true);
                for (int hour = 0; hour < from; hour++) {
                    x.hours(1);
                    Check.due("KIND " + kind + " not yet", x.wallOf(0, 3) + x.wet(1), 0);
                }
                x.hours(1);
                Check.due("KIND " + kind + " from " + from, x.wallOf(0, 3) + x.wet(1), kind == 3 ? 50 : 48);
            }
        }
    }

    /** The last HOUR that passes is 599; a CAUSE from 600 on never acts. */
    private static void fromTheLastHourOn() {
        DampHouse x = withWall();
        x.wall(1, 0, 0, true);
        x.cause(1, 0, 99, 599);
        x.cause(1, 1, 99, 600);
        x.truth(0, true);
        x.truth(1, true);
        x.hours(599);
        Check.due("not yet", x.wallOf(0, 3), 0);
        x.hours(1);
        Check.due("in HOUR 599", x.wallOf(0, 3), 95);
        Check.due("never", x.wallOf(1, 3), 0);
        Check.due("by THE TALE", x.tale(3, 0), 95);
        Check.due("by THE TALE never", x.tale(3, 1), 0);
    }

    /** "as long as they are TRUE (told; not at first)." */
    private static void asLongAsTheyAreTrue() {
        DampHouse x = withWall();
        x.dry(50);
        x.cause(1, 0, 98, 0);
        x.hours(1);
        Check.due("not at first", x.wallOf(0, 3), 0);
        x.truth(0, true);
        Check.due("not at once", x.wallOf(0, 3), 0);
        x.hours(1);
        Check.due("from now on", x.wallOf(0, 3), 49);
        x.truth(0, false);
        x.hours(1);
        Check.due("no more", x.wallOf(0, 3), 24);
    }

    /** "THE TALE of a set of CAUSES: all HOURS from 0 to now": there are none. */
    private static void taleBeforeAnyHour() {
        DampHouse x = withWall();
        x.cause(1, 0, 99, 0);
        x.room(0, 5, 99999);
        Check.due("no HOURS", x.tale(1, 0), 0);
        x.hours(1);
        Check.due("one HOUR", x.tale(1, 0), 95);
    }

    private static void taleOfAllHours() {
        DampHouse x = withWall();
        x.dry(50);
        x.cause(1, 0, 99, 0);
        x.hours(600);
        Check.due("at last 98 and 99 less 99", x.tale(1, 0), 98);
        Check.due("none", x.tale(0, 0), 0);
    }

    private static void taleOfTheFirstSixAlone() {
        DampHouse x = withWall();
        for (int i = 0; i < 6; i++) {
            x.cause(1, 0, 10, 0);
            Check.due("bits of those that there are", x.tale((1 << i + 1) - 1, 0), 0);
            Check.due("one bit more", x.tale(1 << i + 1, 0), -2);
        }
        x.cause(1, 0, 99, 0);
        Check.due("the seventh", x.tale(64, 0), -2);
        x.truth(6, true);
        x.hours(1);
        Check.due("60 less 3", x.tale(63, 0), 57);
    }

    /** "WET and DAMP 0 at first" */
    private static void taleFromNothing() {
        DampHouse x = withWall();
        x.room(0, 2, 0);
        x.room(0, 5, 99999);
        x.hours(1);
        Check.due("as it is", x.wallOf(0, 3), 95154);
        Check.due("by THE TALE", x.tale(0, 0), 0);
        x.hours(1);
        Check.due("by THE TALE, again", x.tale(0, 0), 0);
    }

    /** "bits of the first 6 that there are": of none there is the empty set alone. */
    private static void setsWithoutCauses() {
        DampHouse x = withWall();
        Check.due("off(0)", x.off(0), 0);
        Check.due("off(1)", Face.call(x, "off", 1), Face.THROWN);
        Check.due("tale(0)", x.tale(0, 0), 0);
        Check.due("tale(1)", x.tale(1, 0), -2);
        Check.due("best", x.best(), 0);
        Check.due("simple(0)", x.simple(0), 1);
        Check.due("simple(1)", x.simple(1), 0);
        Check.due("rivals", x.rivals(), 1);
        x.reading(0, 0, 1, 0);
        Check.due("best, though it does not FIT", x.best(), 0);
        Check.due("simple(0)", x.simple(0), -9);
        Check.due("simple(1)", x.simple(1), -9);
        Check.due("rivals", x.rivals(), 0);
    }

    private static void setsOfSixAndMore() {
        DampHouse x = withWall();
        for (int n = 1; n <= 10; n++) {
            x.cause(3, 0, 1, 0);
            int sets = 1 << Math.min(6, n);
            Check.due("the last set of " + n, Face.call(x, "off", sets - 1), 0);
            Check.due("one behind the last of " + n, Face.call(x, "off", sets), Face.THROWN);
            Check.due("rivals of " + n, x.rivals(), sets);
        }
        Check.due("below", Face.call(x, "off", -1), Face.THROWN);
        Check.due("far below", Face.call(x, "off", Integer.MIN_VALUE), Face.THROWN);
        Check.due("far above", Face.call(x, "off", Integer.MAX_VALUE), Face.THROWN);
    }

    /** "DAMP by THE TALE, as HOURS 0 to the READING's less 1 have passed": of HOUR 0 none has. */
    private static void readingAtHourNought() {
        DampHouse x = withWall();
        x.cause(1, 0, 99, 0);
        x.hours(2);
        x.reading(0, 0, 0, 0);
        Check.due("nothing has passed", x.off(1), 0);
        x.reading(0, 1, 95, 0);
        Check.due("HOUR 0 has", x.off(1), 0);
        x.reading(0, 2, 186, 0);
        Check.due("HOURS 0 and 1 have", x.off(1), 0);
        x.reading(0, 2, 95, 0);
        Check.due("not as much", x.off(1), 91);
    }

    private static void readingAtTheLastHour() {
        DampHouse x = withWall();
        x.cause(1, 0, 99, 599);
        x.hours(600);
        x.reading(0, 599, 0, 0);
        Check.due("HOURS 0 to 598", x.off(1), 0);
        x.reading(0, 600, 95, 0);
        Check.due("HOURS 0 to 599", x.off(1), 0);
        Check.due("the other set", x.off(0), 95);
    }

    /** "(0: it FITS)" */
    private static void offOfNoReadings() {
        DampHouse x = withWall();
        x.cause(1, 0, 99, 0);
        x.hours(600);
        Check.due("without READINGS all FIT", x.off(1), 0);
        Check.due("without READINGS all FIT", x.rivals(), 2);
    }

    private static void offAsFarAsCanBe() {
        DampHouse x = withWall();
        for (int i = 0; i < 60; i++) {
            x.reading(0, 0, 99999, 0);
        }
        Check.due("sixty times 99999", x.off(0), 5999940L);
        Check.due("best all the same", x.best(), 0);
    }

    /** "with all else as it is now", though OFF was asked for just before. */
    private static void madeAfterOffWasAsked() {
        DampHouse x = withWall();
        x.hours(1);
        x.reading(0, 1, 0, 0);
        x.room(0, 2, 0);
        Check.due("nothing MADE", x.off(0), 0);
        x.made(0, 0, 999);
        Check.due("119 less 5", x.off(0), 114);
        x.dry(50);
        Check.due("119 less 60", x.off(0), 59);
        x.room(0, 0, 99);
        Check.due("all of it stays in the air", x.off(0), 0);
        x.room(0, 1, 0);
        Check.due("999 less 495 is 504, less 252", x.off(0), 252);
        x.wall(0, 1, 0, true);
        Check.due("of another ROOM", x.off(0), 0);
        x.wall(0, 0, 0, true);
        x.room(0, 2, 50);
        // OUT is 346: 999 less 326 is 673, 178 above 495.
        Check.due("through GAPS", x.off(0), 89);
        x.outside(0, 0, -20);
        // OUT is 49: 999 less 475 is 524, 29 above.
        Check.due("less comes in", x.off(0), 14);
    }

    /** "SIMPLE sets: those of the fewest CAUSES that FIT" */
    private static void simpleOfAllOrNothing() {
        DampHouse x = withWall();
        for (int i = 0; i < 6; i++) {
            x.cause(1, 0, 10, 0);
        }
        x.hours(1);
        Check.due("the empty set", x.simple(1), 0);
        x.reading(0, 1, 28, 1);
        Check.due("three of six: 20", x.simple(0), 20);
        Check.due("three of six", x.simple(1), 3);
        x.reading(0, 1, 57, 29);
        Check.due("as many still", x.simple(0), 20);
        DampHouse y = withWall();
        for (int i = 0; i < 6; i++) {
            y.cause(1, 0, 10, 0);
        }
        y.hours(1);
        y.reading(0, 1, 57, 0);
        Check.due("just the full set", y.simple(0), 1);
        Check.due("just the full set", y.simple(1), 6);
        y.reading(0, 1, 58, 0);
        Check.due("none", y.simple(0), -9);
        Check.due("none", y.simple(1), -9);
    }

    /** "BEST: of all sets the one of the least OFF, of these of the fewest CAUSES, of these the least as bits." */
    private static void bestOfEquals() {
        DampHouse x = withWall();
        x.cause(1, 0, 30, 0);
        x.cause(1, 0, 10, 0);
        x.cause(1, 0, 20, 0);
        x.cause(1, 0, 30, 0);
        x.hours(1);
        x.reading(0, 1, 28, 0);
        Check.due("{0}, {3} and {1, 2} FIT", x.rivals(), 3);
        Check.due("the least as bits of the fewest", x.best(), 1);
        x.reading(0, 1, 30, 0);
        Check.due("OFF by 2, alike", x.best(), 1);
        DampHouse y = withWall();
        y.cause(1, 0, 10, 0);
        y.cause(1, 0, 20, 0);
        y.cause(1, 0, 30, 0);
        y.hours(1);
        y.reading(0, 1, 28, 0);
        Check.due("{0, 1} is less as bits, {2} has fewer", y.best(), 4);
        y.reading(0, 1, 29, 0);
        y.reading(0, 1, 0, 999);
        Check.due("still", y.best(), 4);
    }

    /** "(Of the first 6 CAUSES alone.)" */
    private static void bestOfTheFirstSixAlone() {
        DampHouse x = withWall();
        for (int i = 0; i < 5; i++) {
            x.cause(3, 5, 1, 0);
        }
        x.cause(1, 0, 50, 0);
        x.cause(1, 0, 99, 0);
        x.hours(1);
        x.reading(0, 1, 95, 0);
        Check.due("the sixth is the last that counts", x.best(), 32);
        Check.due("OFF", x.off(32), 47);
    }
}
