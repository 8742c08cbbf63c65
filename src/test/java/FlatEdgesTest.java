/** Part VI of the document, one test a sentence that names an edge: FLATS, BESIDE, JOINS and CHANCE. */
final class FlatEdgesTest {
    public static void main(String[] args) {
        unknownAtFirst();
        theFirstAndTheLastFlat();
        stacksNextToOneAnother();
        floorsNextToOneAnother();
        notAcrossNorRound();
        onlyKnownDampOnes();
        allFlats();
        chanceOfNone();
        chanceOfOne();
        chanceOfAsManyOrMore();
        chanceOfSixteenAtMost();
        chanceOfAllSixteen();
        chanceOfTheLastFlats();
        chanceCountsTwosAtOnePlace();
        Check.finish();
    }

    /** "DAMP there or not, or unknown (at first)" */
    private static void unknownAtFirst() {
        DampHouse x = new DampHouse();
        for (int flat = 0; flat < 24; flat++) {
            Check.due("unknown", x.flat(flat, 3, 5, 2), 2);
        }
        Check.due("none is known", x.count(9), 0);
        int[] told = {0, 1, 2, 1, 0, 2};
        int was = 2;
        for (int damp : told) {
            Check.due("what it was", x.flat(0, 0, 0, damp), was);
            Check.due("known", x.count(9), damp == 2 ? 0 : 1);
            was = damp;
        }
    }

    /** "FLATS 0 .. 23 of an ESTATE: a STACK (0 .. 3), a FLOOR (0 .. 5)" */
    private static void theFirstAndTheLastFlat() {
        DampHouse x = new DampHouse();
        Check.due("FLAT 0", x.flat(0, 3, 4, 1), 2);
        Check.due("FLAT 23", x.flat(23, 3, 5, 1), 2);
        Check.due("they are BESIDE", x.joins(), 1);
        Check.due("FLAT 24", x.flat(24, 3, 5, 1), -1);
        Check.due("FLAT -1", x.flat(-1, 3, 5, 1), -1);
        Check.due("STACK 4", x.flat(1, 4, 5, 1), -1);
        Check.due("STACK -1", x.flat(1, -1, 5, 1), -1);
        Check.due("FLOOR 6", x.flat(1, 3, 6, 1), -1);
        Check.due("FLOOR -1", x.flat(1, 3, -1, 1), -1);
        Check.due("known", x.count(9), 2);
    }

    private static int joinsOf(int stack, int floor, int otherStack, int otherFloor) {
        DampHouse x = new DampHouse();
        x.flat(0, stack, floor, 1);
        x.flat(1, otherStack, otherFloor, 1);
        return x.joins();
    }

    /** "of one FLOOR and STACKS next to one another (numbers differ by 1)" */
    private static void stacksNextToOneAnother() {
        for (int stack = 0; stack < 4; stack++) {
            for (int other = 0; other < 4; other++) {
                int due = stack - other == 1 || other - stack == 1 ? 1 : 0;
                Check.due("STACKS " + stack + " and " + other, joinsOf(stack, 2, other, 2), due);
                Check.due("of two FLOORS", joinsOf(stack, 2, other, 4), 0);
            }
        }
    }

    /** "BESIDE: of one STACK and FLOORS next to one another" */
    private static void floorsNextToOneAnother() {
        for (int floor = 0; floor < 6; floor++) {
            for (int other = 0; other < 6; other++) {
                int due = floor - other == 1 || other - floor == 1 ? 1 : 0;
                Check.due("FLOORS " + floor + " and " + other, joinsOf(1, floor, 1, other), due);
                Check.due("of two STACKS", joinsOf(1, floor, 3, other), 0);
            }
        }
    }

    private static void notAcrossNorRound() {
        Check.due("across a corner", joinsOf(0, 0, 1, 1), 0);
        Check.due("across the other corner", joinsOf(1, 0, 0, 1), 0);
        Check.due("the last STACK and the first", joinsOf(3, 0, 0, 0), 0);
        Check.due("the last STACK and the first of the next FLOOR", joinsOf(3, 0, 0, 1), 0);
        Check.due("the highest FLOOR and the lowest", joinsOf(0, 5, 0, 0), 0);
        Check.due("at one place", joinsOf(2, 2, 2, 2), 0);
    }

    /** "JOINS: how many twos BESIDE are both DAMP (known)." */
    private static void onlyKnownDampOnes() {
        for (int one = 0; one < 3; one++) {
            for (int other = 0; other < 3; other++) {
                DampHouse x = new DampHouse();
                x.flat(0, 0, 0, one);
                x.flat(1, 0, 1, other);
                Check.due(one + " and " + other, x.joins(), one == 1 && other == 1 ? 1 : 0);
            }
        }
    }

    private static void allFlats() {
        DampHouse x = new DampHouse();
        for (int flat = 0; flat < 24; flat++) {
            x.flat(flat, flat / 6, flat % 6, 1);
        }
        Check.due("20 up and 18 across", x.joins(), 38);
        Check.due("known", x.count(9), 24);
        Check.due("too many to choose from", x.chance(0), -6);
        for (int flat = 0; flat < 24; flat++) {
            x.flat(flat, 0, flat % 2, 1);
        }
        Check.due("twelve above twelve", x.joins(), 144);
    }

    /** "of all ways to choose as many of the known FLATS as are DAMP": of none there is one. */
    private static void chanceOfNone() {
        DampHouse x = new DampHouse();
        Check.due("no FLATS", x.chance(0), 1);
        Check.due("no FLATS", x.chance(1), 1);
        for (int flat = 0; flat < 16; flat++) {
            x.flat(flat, flat % 4, flat / 4, 0);
        }
        Check.due("none is DAMP", x.chance(0), 1);
        Check.due("none is DAMP", x.chance(1), 1);
    }

    private static void chanceOfOne() {
        DampHouse x = new DampHouse();
        x.flat(23, 3, 5, 1);
        Check.due("one of one", x.chance(0), 1);
        Check.due("one of one", x.chance(1), 1);
        for (int flat = 0; flat < 15; flat++) {
            x.flat(flat, flat % 4, flat / 4, 0);
        }
        Check.due("one of sixteen has no JOINS", x.chance(0), 16);
        Check.due("one of sixteen", x.chance(1), 16);
    }

    /** "have as many JOINS or more" */
    private static void chanceOfAsManyOrMore() {
        DampHouse x = new DampHouse();
        // A row of four STACKS, and a FLAT away from them.
        for (int stack = 0; stack < 4; stack++) {
            x.flat(stack, stack, 0, stack == 0 || stack == 2 ? 1 : 0);
        }
        x.flat(4, 0, 5, 1);
        Check.due("no JOINS: all ways", x.chance(0), 10);
        Check.due("three of five", x.chance(1), 10);
        x.flat(1, 1, 0, 1);
        x.flat(2, 2, 0, 0);
        // All but 024, 034 and 134.
        Check.due("one JOIN or more", x.chance(0), 7);
        x.flat(2, 2, 0, 1);
        x.flat(4, 0, 5, 0);
        Check.due("two JOINS", x.joins(), 2);
        Check.due("two JOINS or more: 012 and 123", x.chance(0), 2);
    }

    /** "(known FLATS 16 at most)" */
    private static void chanceOfSixteenAtMost() {
        DampHouse x = new DampHouse();
        for (int flat = 0; flat < 16; flat++) {
            x.flat(flat, flat % 4, flat / 4, flat % 2);
        }
        Check.due("sixteen", x.chance(1), 12870);
        x.flat(16, 0, 5, 0);
        Check.due("seventeen, part 0", x.chance(0), -6);
        Check.due("seventeen, part 1", x.chance(1), -6);
        x.flat(3, 3, 0, 2);
        Check.due("sixteen again, seven are DAMP", x.chance(1), 11440);
        Check.due("refusals -6", x.count(16), 2);
    }

    private static void chanceOfAllSixteen() {
        DampHouse x = new DampHouse();
        for (int flat = 0; flat < 16; flat++) {
            x.flat(flat, flat % 4, flat / 4, 1);
        }
        Check.due("JOINS", x.joins(), 24);
        Check.due("one way", x.chance(0), 1);
        Check.due("one way", x.chance(1), 1);
        x.flat(15, 3, 3, 0);
        Check.due("JOINS without a corner", x.joins(), 22);
        Check.due("one of four corners is out", x.chance(0), 4);
        Check.due("one of sixteen is out", x.chance(1), 16);
    }

    /** The known FLATS need not be the first. */
    private static void chanceOfTheLastFlats() {
        DampHouse x = new DampHouse();
        for (int flat = 20; flat < 24; flat++) {
            x.flat(flat, flat - 20, 5, flat < 22 ? 1 : 0);
        }
        Check.due("three twos of six", x.chance(0), 3);
        Check.due("of six", x.chance(1), 6);
    }

    private static void chanceCountsTwosAtOnePlace() {
        DampHouse x = new DampHouse();
        x.flat(0, 0, 0, 1);
        x.flat(1, 0, 0, 0);
        x.flat(2, 0, 1, 1);
        Check.due("02 and 12", x.chance(0), 2);
        Check.due("of three", x.chance(1), 3);
    }
}
