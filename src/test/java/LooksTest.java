/** Promises 21 to 24: LOOKS, what they leave, NEXT, and PLAN. */
final class LooksTest {
    public static void main(String[] args) {
        tellingLooks();
        lookRefusals();
        answers();
        answersToAnySet();
        nextByPriceAndWhatIsLeft();
        nextOfFew();
        nextOfSeveral();
        nextWithoutRivals();
        planOfOne();
        planByWhatCame();
        planIsTheWorstCase();
        planIgnoresWhatPartsNothing();
        planWithEightLooks();
        Check.finish();
    }

    private static void tellingLooks() {
        DampHouse x = States.withCauses(2);
        Check.due("a set of none", x.look(0, 1), 0);
        Check.due("CAUSES that are not there", x.look(63, 999), 1);
        for (int i = 2; i < 8; i++) {
            Check.due("its number", x.look(1, 1), i);
        }
        Check.due("no room", x.look(1, 1), -6);
        Check.due("-4 ahead of no room", x.look(1, 0), -4);
        Check.due("LOOKS", x.count(5), 8);
        Check.due("ANSWERED", x.count(6), 0);
    }

    private static void lookRefusals() {
        DampHouse x = States.withCauses(6);
        Check.due("other bits, ahead of -4", x.look(64, 0), -2);
        Check.due("other bits", x.look(-1, 1), -2);
        Check.due("price below", x.look(1, 0), -4);
        Check.due("price above", x.look(1, 1000), -6);
        Check.due("LOOKS", x.count(5), 0);
        Check.due("refusals -2", x.count(12), 2);
        Check.due("refusals -4", x.count(14), 1);
        Check.due("refusals -6", x.count(16), 1);
    }

    private static void answers() {
        DampHouse x = States.withCauses(3);
        x.look(1, 1);
        x.look(6, 1);
        Check.due("rivals", x.rivals(), 8);
        Check.due("those without 1 and 2", x.answer(1, false), 2);
        Check.due("rivals", x.rivals(), 2);
        Check.due("it was", x.answer(1, false), -3);
        Check.due("it was, told otherwise", x.answer(1, true), -3);
        Check.due("the set of 0", x.answer(0, true), 1);
        Check.due("no such look", x.answer(2, true), -1);
        Check.due("no such look", x.answer(-1, true), -1);
        Check.due("ANSWERED", x.count(6), 2);
        Check.due("LOOKS", x.count(5), 2);
        Check.due("refusals -1", x.count(11), 2);
        Check.due("refusals -3", x.count(13), 2);
        x.cause(3, 0, 1, 0);
        Check.due("with a CAUSE more", x.rivals(), 2);
    }

    private static void answersToAnySet() {
        DampHouse x = States.withCauses(6);
        x.look(0, 1);
        x.look(63, 1);
        x.look(5, 1);
        Check.due("some CAUSE of 0 and 2", x.answer(2, true), 48);
        Check.due("some CAUSE", x.answer(1, true), 48);
        Check.due("none says yes", x.answer(0, true), 0);
        Check.due("BEST is as it was", x.best(), 0);
    }

    private static void nextByPriceAndWhatIsLeft() {
        DampHouse x = States.withCauses(3);
        Check.due("no LOOKS", x.next(), -9);
        x.look(1, 9);
        Check.due("the only one", x.next(), 0);
        x.look(7, 6);
        // 9 times 4 is 36; 6 times 7 is 42.
        Check.due("the one that leaves less", x.next(), 0);
        x.look(2, 8);
        Check.due("the cheaper one", x.next(), 2);
        x.look(0, 3);
        Check.due("one that parts nothing, but for less", x.next(), 3);
        x.answer(3, false);
        Check.due("one that was ANSWERED is out", x.next(), 2);
        x.answer(0, true);
        // Four sets are left: 8 times 2 is 16; 6 times 4 is 24.
        Check.due("of what is left", x.next(), 2);
        x.answer(2, true);
        Check.due("the last", x.next(), 1);
        x.answer(1, true);
        Check.due("no LOOK is left", x.next(), -9);
    }

    private static void nextOfFew() {
        DampHouse x = new DampHouse();
        x.wall(0, 0, 0, false);
        x.cause(1, 0, 50, 0);
        x.cause(3, 0, 1, 0);
        x.hours(1);
        x.reading(0, 1, 48, 0);
        x.look(1, 5);
        x.look(2, 9);
        x.look(3, 6);
        // {0} and {0, 1} are left: 5 times 2, 9 times 1, 6 times 2.
        Check.due("the dearer one, as it parts", x.next(), 1);
    }

    private static void nextOfSeveral() {
        DampHouse x = States.withCauses(2);
        x.look(3, 4);
        x.look(2, 6);
        x.look(1, 6);
        // 4 times 3, 6 times 2, 6 times 2.
        Check.due("of several the least", x.next(), 0);
        x.answer(0, true);
        // {0}, {1} and both: 6 times 2 each.
        Check.due("of several the least", x.next(), 1);
    }

    private static void nextWithoutRivals() {
        DampHouse x = States.withCauses(1);
        x.look(1, 1);
        x.wall(0, 0, 0, false);
        x.reading(0, 0, 1, 0);
        Check.due("no RIVALS", x.next(), -9);
        Check.due("no RIVALS", x.plan(), 0);
    }

    private static void planOfOne() {
        DampHouse x = States.withCauses(1);
        Check.due("no LOOKS", x.plan(), 0);
        x.look(0, 5);
        Check.due("none parts", x.plan(), 0);
        x.look(1, 999);
        Check.due("the one that parts", x.plan(), 999);
        x.look(63, 7);
        Check.due("a cheaper one", x.plan(), 7);
        x.answer(1, true);
        Check.due("one RIVAL is left", x.plan(), 0);
    }

    private static void planByWhatCame() {
        DampHouse x = States.withCauses(2);
        x.look(3, 1);
        x.look(1, 10);
        x.look(2, 10);
        // All must be told apart by 1 and 2; asking 0 first only helps if it is no.
        Check.due("both", x.plan(), 20);
        x.answer(1, true);
        // {0} and both are left: only LOOK 2 parts them.
        Check.due("the one that parts", x.plan(), 10);
    }

    private static void planIsTheWorstCase() {
        DampHouse x = States.withCauses(2);
        x.wall(0, 0, 0, false);
        x.cause(1, 0, 10, 0);
        x.hours(1);
        x.look(1, 3);
        x.look(2, 5);
        x.look(4, 100);
        Check.due("all three", x.plan(), 108);
        x.reading(0, 1, 9, 0);
        Check.due("what is known is not asked", x.plan(), 8);
        x.reading(0, 1, 8, 0);
        Check.due("no RIVALS", x.plan(), 0);
    }

    private static void planIgnoresWhatPartsNothing() {
        DampHouse x = States.withCauses(2);
        x.look(1, 3);
        Check.due("sets that no LOOK parts are left", x.plan(), 3);
        x.answer(0, false);
        Check.due("two RIVALS, but no LOOK parts them", x.plan(), 0);
        Check.due("two RIVALS", x.rivals(), 2);
    }

    private static void planWithEightLooks() {
        DampHouse x = States.withCauses(6);
        for (int i = 0; i < 6; i++) {
            x.look(1 << i, 10 + i);
        }
        Check.due("each of six", x.plan(), 75);
        x.look(63, 900);
        x.look(3, 1);
        // LOOK 7 first costs 1 more where it is yes, and that is the worst case.
        Check.due("no way is less", x.plan(), 75);
        x.answer(7, false);
        Check.due("0 and 1 are out", x.plan(), 54);
        x.answer(5, true);
        Check.due("three are left", x.plan(), 39);
    }
}
