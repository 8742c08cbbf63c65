/** Part V of the document, one test a sentence that names an edge: TRIALS, MEANS and HELPED. */
final class TrialEdgesTest {
    public static void main(String[] args) {
        nowOrLater();
        inTheLastHour();
        overAllHours();
        asTheFirstBeginsAndTheLastEnded();
        oneHourLong();
        fanThatWasOn();
        gapsAtTheirLeastAndMost();
        untilItHasEnded();
        asItWasWhenTheFirstBegan();
        nextToOneAnother();
        roomsOfTheirOwn();
        twentyTrials();
        asManyHoursAhead();
        fewerHoursAhead();
        noHoursAhead();
        noWalls();
        meansAreCut();
        meansOfTwelveWalls();
        helpedIfBelow();
        Check.finish();
    }

    /** "from an HOUR to an HOUR (now or later)" */
    private static void nowOrLater() {
        DampHouse x = new DampHouse();
        Check.due("ahead of 0", x.trial(0, 0, 0, -1, 1), -4);
        Check.due("at 0", x.trial(0, 0, 0, 0, 1), 0);
        x.hours(5);
        Check.due("just ahead of now", x.trial(0, 0, 0, 4, 9), -4);
        Check.due("now", x.trial(0, 0, 0, 5, 9), 1);
        Check.due("later", x.trial(0, 0, 0, 9, 10), 2);
    }

    private static void inTheLastHour() {
        DampHouse x = new DampHouse();
        x.hours(599);
        Check.due("above 600", x.trial(0, 1, 40, 599, 601), -6);
        Check.due("to 600", x.trial(0, 1, 40, 599, 600), 0);
        x.hours(1);
        Check.due("it has ended", x.trialOf(0, 0), 0);
        Check.due("GAPS as they were", x.room(0, 2, 10), 10);
        Check.due("no HOUR is left", x.trial(0, 1, 40, 600, 601), -6);
        Check.due("no HOUR in it", x.trial(0, 1, 40, 600, 600), -4);
    }

    private static void overAllHours() {
        DampHouse x = new DampHouse();
        Check.due("from 0 to 600", x.trial(5, 1, 0, 0, 600), 0);
        Check.due("any other in its ROOM", x.trial(5, 0, 0, 599, 600), -3);
        x.hours(599);
        Check.due("still", x.room(5, 2, 0), 0);
        Check.due("it has not ended", x.trialOf(0, 0), -3);
        x.hours(1);
        Check.due("as it was", x.room(5, 2, 10), 10);
        Check.due("it has ended", x.trialOf(0, 2), 0);
    }

    /** "as its first HOUR begins it is so, as its last one ended it is as it was when the first began." */
    private static void asTheFirstBeginsAndTheLastEnded() {
        DampHouse x = new DampHouse();
        for (int room = 0; room < 2; room++) {
            x.room(room, 5, 640);
            x.room(room, 3, 40);
        }
        x.trial(0, 1, 0, 1, 3);
        x.trial(1, 0, 0, 1, 3);
        // OUT is 140: a tenth of what is above it goes each HOUR, then none or a half, then a tenth again.
        int[] gaps = {590, 590, 590, 545};
        int[] fan = {590, 365, 253, 242};
        for (int hour = 0; hour < 4; hour++) {
            x.hours(1);
            Check.due("without GAPS, behind HOUR " + hour, x.wet(0), gaps[hour]);
            Check.due("with the FAN, behind HOUR " + hour, x.wet(1), fan[hour]);
        }
    }

    /** "(HOURS from .. to - 1.)" */
    private static void oneHourLong() {
        DampHouse x = new DampHouse();
        Check.due("no HOUR", x.trial(0, 1, 50, 1, 1), -4);
        Check.due("one HOUR", x.trial(0, 1, 50, 1, 2), 0);
        x.room(0, 5, 640);
        x.hours(1);
        Check.due("ahead of it", x.wet(0), 590);
        x.hours(1);
        Check.due("in it", x.wet(0), 365);
        x.hours(1);
        Check.due("behind it", x.wet(0), 343);
    }

    private static void fanThatWasOn() {
        DampHouse x = new DampHouse();
        x.room(0, 4, 1);
        x.trial(0, 0, 0, 0, 2);
        x.hours(1);
        Check.due("on in it", x.room(0, 4, 0), 1);
        x.hours(1);
        Check.due("on again, though told off in it", x.room(0, 4, 0), 1);
    }

    /** "GAPS to be a number" */
    private static void gapsAtTheirLeastAndMost() {
        DampHouse x = new DampHouse();
        Check.due("-1", x.trial(0, 1, -1, 0, 2), -4);
        Check.due("51", x.trial(0, 1, 51, 0, 2), -6);
        Check.due("0", x.trial(0, 1, 0, 0, 2), 0);
        Check.due("50", x.trial(1, 1, 50, 0, 2), 1);
        x.hours(1);
        Check.due("0 in it", x.room(0, 2, 0), 0);
        Check.due("50 in it", x.room(1, 2, 50), 50);
        x.hours(1);
        Check.due("10 again", x.room(0, 2, 10), 10);
        Check.due("10 again", x.room(1, 2, 10), 10);
    }

    /** "It has ended as its last HOUR has." */
    private static void untilItHasEnded() {
        DampHouse x = new DampHouse();
        x.trial(0, 0, 0, 2, 4);
        for (int hour = 0; hour < 4; hour++) {
            Check.due("at HOUR " + hour, x.trialOf(0, 0), -3);
            x.hours(1);
        }
        Check.due("at HOUR 4", x.trialOf(0, 0), 0);
        Check.due("refusals -3", x.count(13), 4);
    }

    private static void asItWasWhenTheFirstBegan() {
        DampHouse x = new DampHouse();
        x.trial(0, 1, 50, 2, 3);
        x.room(0, 2, 11);
        x.hours(2);
        x.room(0, 2, 12);
        x.hours(1);
        Check.due("as it was when it began, not when it was told", x.room(0, 2, 10), 12);
    }

    /** "-3 the ROOM has a TRIAL in these HOURS" */
    private static void nextToOneAnother() {
        DampHouse x = new DampHouse();
        x.trial(0, 1, 20, 10, 12);
        Check.due("its first HOUR", x.trial(0, 1, 30, 9, 11), -3);
        Check.due("its last HOUR", x.trial(0, 1, 30, 11, 13), -3);
        Check.due("both and more", x.trial(0, 1, 30, 9, 13), -3);
        Check.due("just these", x.trial(0, 0, 0, 10, 12), -3);
        Check.due("up to it", x.trial(0, 1, 30, 8, 10), 1);
        Check.due("from it on", x.trial(0, 1, 40, 12, 14), 2);
        x.hours(9);
        Check.due("in the one ahead", x.room(0, 2, 30), 30);
        x.hours(2);
        Check.due("in it", x.room(0, 2, 20), 20);
        x.hours(2);
        Check.due("in the one behind", x.room(0, 2, 40), 40);
        x.hours(1);
        Check.due("behind all", x.room(0, 2, 10), 10);
    }

    private static void roomsOfTheirOwn() {
        DampHouse x = new DampHouse();
        for (int room = 0; room < 6; room++) {
            Check.due("one in each ROOM", x.trial(room, 1, room, 0, 2), room);
        }
        x.hours(1);
        for (int room = 0; room < 6; room++) {
            Check.due("its own GAPS", x.room(room, 2, 50), room);
        }
    }

    private static void twentyTrials() {
        DampHouse x = new DampHouse();
        Check.due("no TRIAL is there", x.trialOf(0, 0), -1);
        for (int i = 0; i < 20; i++) {
            Check.due("from 0 on", x.trial(0, 1, 0, i, i + 1), i);
            Check.due("not the next", x.trialOf(i + 1, 0), -1);
        }
        Check.due("the 21st", x.trial(1, 1, 0, 0, 1), -6);
        x.hours(20);
        Check.due("the 20th", x.trialOf(19, 0), 0);
        Check.due("no room, though all have ended", x.trial(1, 1, 0, 20, 21), -6);
    }

    private static DampHouse tried(int from, int to) {
        DampHouse x = States.dripping();
        x.trial(0, 0, 0, from, to);
        x.hours(to);
        return x;
    }

    /** "and of as many HOURS ahead of it" */
    private static void asManyHoursAhead() {
        DampHouse x = tried(3, 5);
        Check.due("92 and 95", x.trialOf(0, 0), 93);
        Check.due("74 and 86, not 49", x.trialOf(0, 1), 80);
        DampHouse y = tried(2, 4);
        Check.due("86 and 92", y.trialOf(0, 0), 89);
        Check.due("49 and 74: just as many", y.trialOf(0, 1), 61);
    }

    /** "(fewer HOURS if there were not as many" */
    private static void fewerHoursAhead() {
        DampHouse x = tried(1, 3);
        Check.due("74 and 86", x.trialOf(0, 0), 80);
        Check.due("49 alone, one fewer", x.trialOf(0, 1), 49);
        DampHouse y = tried(1, 600);
        Check.due("49 alone, far fewer", y.trialOf(0, 1), 49);
        DampHouse z = tried(2, 5);
        Check.due("49 and 74, one fewer", z.trialOf(0, 1), 61);
    }

    /** "0 without HOURS" */
    private static void noHoursAhead() {
        DampHouse x = tried(0, 1);
        Check.due("49", x.trialOf(0, 0), 49);
        Check.due("no HOURS ahead", x.trialOf(0, 1), 0);
        Check.due("nothing is below it", x.trialOf(0, 2), 0);
    }

    /** "0 without .. WALLS)" */
    private static void noWalls() {
        DampHouse x = States.dripping();
        x.trial(1, 0, 0, 1, 2);
        x.hours(2);
        for (int what = 0; what < 3; what++) {
            Check.due("without WALLS, " + what, x.trialOf(0, what), 0);
        }
        x.wall(0, 1, 0, false);
        Check.due("a WALL that is the ROOM's now", x.trialOf(0, 0), 74);
        Check.due("and ahead", x.trialOf(0, 1), 49);
    }

    /** "MEANS: .. cut" */
    private static void meansAreCut() {
        DampHouse x = tried(1, 4);
        Check.due("252 by 3", x.trialOf(0, 0), 84);
        DampHouse y = tried(0, 4);
        Check.due("301 by 4", y.trialOf(0, 0), 75);
        DampHouse z = tried(0, 5);
        Check.due("396 by 5", z.trialOf(0, 0), 79);
    }

    private static void meansOfTwelveWalls() {
        DampHouse x = tried(0, 2);
        for (int wall = 1; wall < 12; wall++) {
            x.wall(wall, 0, 0, false);
        }
        Check.due("123 by 24", x.trialOf(0, 0), 5);
        for (int wall = 1; wall < 12; wall++) {
            x.wall(wall, 5, 0, false);
        }
        Check.due("123 by 2", x.trialOf(0, 0), 61);
    }

    /** "HELPED: the first is below the other." */
    private static void helpedIfBelow() {
        DampHouse x = new DampHouse();
        x.wall(0, 0, 0, false);
        x.dry(50);
        x.cause(1, 0, 98, 0);
        x.trial(0, 0, 0, 1, 2);
        x.trial(0, 0, 0, 2, 3);
        x.trial(0, 0, 0, 3, 4);
        x.truth(0, true);
        x.hours(1);
        x.truth(0, false);
        x.cause(1, 0, 49, 0);
        x.truth(1, true);
        x.hours(1);
        Check.due("49", x.trialOf(0, 1), 49);
        Check.due("49 and 49 less 49", x.trialOf(0, 0), 49);
        Check.due("as much is no help", x.trialOf(0, 2), 0);
        x.truth(1, false);
        x.cause(1, 0, 48, 0);
        x.truth(2, true);
        x.hours(1);
        Check.due("49 and 48 less 49", x.trialOf(1, 0), 48);
        Check.due("one less is help", x.trialOf(1, 2), 1);
        x.cause(1, 0, 2, 0);
        x.truth(3, true);
        x.hours(1);
        Check.due("48 and 50 less 49", x.trialOf(2, 0), 49);
        Check.due("one more is none", x.trialOf(2, 2), 0);
    }
}
