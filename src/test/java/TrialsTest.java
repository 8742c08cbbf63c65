/** Promises 25 and 26: TRIALS, what they change and for how long, and whether they HELPED. */
final class TrialsTest {
    public static void main(String[] args) {
        fanOnAndAsItWas();
        gapsAndAsTheyWere();
        asItWasWhenItBegan();
        oneBehindTheOther();
        trialsChangeTheAir();
        trialRefusals();
        overlaps();
        twentyTrials();
        means();
        meansOfSeveralWalls();
        meansWithFewerHoursAhead();
        meansGoByTheWallsOfNow();
        helped();
        trialOfRefusals();
        Check.finish();
    }

    private static void fanOnAndAsItWas() {
        DampHouse x = new DampHouse();
        Check.due("trial", x.trial(0, 0, 0, 1, 3), 0);
        Check.due("TRIALS", x.count(7), 1);
        x.hours(1);
        Check.due("not yet", x.room(0, 4, 0), 0);
        x.hours(1);
        Check.due("on", x.room(0, 4, 1), 1);
        Check.due("another room's is not", x.room(1, 4, 0), 0);
        x.hours(1);
        Check.due("off again", x.room(0, 4, 0), 0);
    }

    private static void gapsAndAsTheyWere() {
        DampHouse x = new DampHouse();
        Check.due("trial", x.trial(5, 1, 50, 0, 2), 0);
        x.hours(1);
        Check.due("50", x.room(5, 2, 50), 50);
        Check.due("the FAN is as it was", x.room(5, 4, 0), 0);
        x.hours(1);
        Check.due("10 again", x.room(5, 2, 10), 10);
        Check.due("to nothing", x.trial(5, 1, 0, 2, 600), 1);
        x.hours(597);
        Check.due("0", x.room(5, 2, 0), 0);
        x.hours(1);
        Check.due("10 again at HOUR 600", x.room(5, 2, 10), 10);
    }

    private static void asItWasWhenItBegan() {
        DampHouse x = new DampHouse();
        x.trial(0, 1, 30, 1, 3);
        x.room(0, 2, 20);
        x.hours(1);
        x.room(0, 2, 25);
        x.hours(1);
        Check.due("30", x.room(0, 2, 40), 30);
        x.hours(1);
        Check.due("as it was when the first HOUR began", x.room(0, 2, 10), 25);
        DampHouse y = new DampHouse();
        y.room(0, 4, 1);
        y.trial(0, 0, 0, 0, 1);
        y.hours(1);
        Check.due("a FAN that was on is on", y.room(0, 4, 0), 1);
    }

    private static void oneBehindTheOther() {
        DampHouse x = new DampHouse();
        Check.due("the later one first", x.trial(0, 1, 30, 2, 4), 0);
        Check.due("the earlier one", x.trial(0, 1, 20, 0, 2), 1);
        x.hours(1);
        Check.due("20", x.room(0, 2, 20), 20);
        x.hours(2);
        Check.due("30", x.room(0, 2, 30), 30);
        x.hours(1);
        Check.due("10", x.room(0, 2, 10), 10);
    }

    private static void trialsChangeTheAir() {
        DampHouse x = new DampHouse();
        x.room(0, 5, 740);
        x.room(0, 3, 40);
        x.trial(0, 0, 7, 0, 1);
        x.hours(1);
        // OUT is 140: 600 by 2.
        Check.due("with the FAN", x.wet(0), 440);
        x.hours(1);
        Check.due("without it", x.wet(0), 410);
    }

    private static void trialRefusals() {
        DampHouse x = new DampHouse();
        x.hours(10);
        Check.due("no such room, ahead of -2", x.trial(6, 2, 0, 10, 11), -1);
        Check.due("no such room", x.trial(-1, 0, 0, 10, 11), -1);
        Check.due("kind above, ahead of -4", x.trial(0, 2, -1, 10, 11), -2);
        Check.due("kind below", x.trial(0, -1, 0, 10, 11), -2);
        Check.due("from ahead of now, ahead of -6", x.trial(0, 0, 51, 9, 11), -4);
        Check.due("to is from", x.trial(0, 0, 0, 11, 11), -4);
        Check.due("to is ahead of from", x.trial(0, 0, 0, 12, 11), -4);
        Check.due("v below", x.trial(0, 1, -1, 10, 11), -4);
        Check.due("to above", x.trial(0, 0, 0, 10, 601), -6);
        Check.due("v above", x.trial(0, 1, 51, 10, 11), -6);
        Check.due("TRIALS", x.count(7), 0);
        Check.due("refusals -1", x.count(11), 2);
        Check.due("refusals -2", x.count(12), 2);
        Check.due("refusals -4", x.count(14), 4);
        Check.due("refusals -6", x.count(16), 2);
    }

    private static void overlaps() {
        DampHouse x = new DampHouse();
        Check.due("trial", x.trial(0, 0, 0, 10, 20), 0);
        Check.due("just ahead of it", x.trial(0, 0, 0, 5, 10), 1);
        Check.due("just behind it", x.trial(0, 1, 0, 20, 25), 2);
        Check.due("in its last HOUR", x.trial(0, 1, 5, 19, 20), -3);
        Check.due("in its first HOUR", x.trial(0, 1, 5, 10, 11), -3);
        Check.due("all about it", x.trial(0, 1, 5, 0, 600), -3);
        Check.due("-3 ahead of -4 and -6", x.trial(0, 1, 51, -5, 601), -3);
        Check.due("no HOURS, so none in them", x.trial(0, 1, 5, 15, 15), -4);
        Check.due("another room", x.trial(1, 1, 5, 10, 20), 3);
        x.hours(30);
        Check.due("one that has ended", x.trial(0, 0, 0, 24, 40), -3);
        Check.due("refusals -3", x.count(13), 5);
    }

    private static void twentyTrials() {
        DampHouse x = new DampHouse();
        for (int i = 0; i < 20; i++) {
            Check.due("its number", x.trial(i % 6, i % 2, 0, i, i + 1), i);
        }
        Check.due("no room", x.trial(0, 0, 0, 30, 31), -6);
        Check.due("-4 ahead of no room", x.trial(0, 0, 0, 31, 31), -4);
        Check.due("TRIALS", x.count(7), 20);
        x.hours(20);
        Check.due("the last has ended", x.trialOf(19, 0), 0);
    }

    private static void means() {
        DampHouse x = States.dripping();
        x.trial(0, 0, 0, 2, 4);
        x.hours(4);
        Check.due("86 and 92", x.trialOf(0, 0), 89);
        Check.due("49 and 74, cut", x.trialOf(0, 1), 61);
        Check.due("it did not help", x.trialOf(0, 2), 0);
        x.hours(10);
        Check.due("later the same", x.trialOf(0, 0), 89);
        Check.due("later the same", x.trialOf(0, 1), 61);
    }

    private static void meansOfSeveralWalls() {
        DampHouse x = States.dripping();
        x.wall(1, 0, 0, false);
        x.wall(2, 1, 0, false);
        x.trial(0, 0, 0, 1, 2);
        x.trial(1, 0, 0, 1, 2);
        x.trial(2, 0, 0, 1, 2);
        x.hours(2);
        Check.due("74 and 0", x.trialOf(0, 0), 37);
        Check.due("49 and 0", x.trialOf(0, 1), 24);
        Check.due("a dry wall", x.trialOf(1, 0), 0);
        Check.due("no WALLS", x.trialOf(2, 0), 0);
        Check.due("no WALLS", x.trialOf(2, 1), 0);
        Check.due("no WALLS", x.trialOf(2, 2), 0);
    }

    private static void meansWithFewerHoursAhead() {
        DampHouse x = States.dripping();
        x.trial(0, 0, 0, 1, 4);
        x.hours(4);
        Check.due("74, 86, 92", x.trialOf(0, 0), 84);
        Check.due("49 alone", x.trialOf(0, 1), 49);
        DampHouse y = States.dripping();
        y.trial(0, 0, 0, 0, 2);
        y.hours(2);
        Check.due("no HOURS ahead", y.trialOf(0, 1), 0);
        Check.due("49 and 74", y.trialOf(0, 0), 61);
        Check.due("no help", y.trialOf(0, 2), 0);
    }

    private static void meansGoByTheWallsOfNow() {
        DampHouse x = States.dripping();
        x.wall(1, 3, 0, false);
        x.trial(3, 0, 0, 1, 2);
        x.hours(2);
        Check.due("its WALL is dry", x.trialOf(0, 0), 0);
        x.wall(0, 3, 0, false);
        Check.due("74 as it was, and 0", x.trialOf(0, 0), 37);
        x.wall(1, 0, 0, false);
        Check.due("74 as it was", x.trialOf(0, 0), 74);
        Check.due("49 as it was", x.trialOf(0, 1), 49);
        x.wall(0, 0, 0, false);
        Check.due("no WALLS now", x.trialOf(0, 0), 0);
    }

    private static void helped() {
        DampHouse x = States.dripping();
        x.hours(1);
        x.truth(0, false);
        x.trial(0, 0, 0, 1, 2);
        x.hours(1);
        Check.due("24", x.trialOf(0, 0), 24);
        Check.due("49", x.trialOf(0, 1), 49);
        Check.due("it helped", x.trialOf(0, 2), 1);
        DampHouse y = States.dripping();
        y.hours(10);
        y.trial(0, 0, 0, 10, 12);
        y.hours(2);
        Check.due("98", y.trialOf(0, 0), 98);
        Check.due("98", y.trialOf(0, 1), 98);
        Check.due("as much is no help", y.trialOf(0, 2), 0);
    }

    private static void trialOfRefusals() {
        DampHouse x = new DampHouse();
        Check.due("no such trial", x.trialOf(0, 0), -1);
        x.trial(0, 0, 0, 0, 2);
        Check.due("no such trial, ahead of -2", x.trialOf(1, 3), -1);
        Check.due("no such trial", x.trialOf(-1, 0), -1);
        Check.due("what above, ahead of -3", x.trialOf(0, 3), -2);
        Check.due("what below", x.trialOf(0, -1), -2);
        Check.due("not begun", x.trialOf(0, 0), -3);
        x.hours(1);
        Check.due("not ended", x.trialOf(0, 2), -3);
        x.hours(1);
        Check.due("ended", x.trialOf(0, 2), 0);
        Check.due("refusals -1", x.count(11), 3);
        Check.due("refusals -2", x.count(12), 2);
        Check.due("refusals -3", x.count(13), 2);
    }
}
