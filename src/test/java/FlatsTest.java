/** Promises 27 to 29: FLATS, JOINS and CHANCE. */
final class FlatsTest {
    public static void main(String[] args) {
        tellingFlats();
        flatRefusals();
        beside();
        flatsAtOnePlace();
        chanceOfARow();
        chanceOfAllAndNone();
        chanceOfSixteen();
        chanceRefusals();
        Check.finish();
    }

    private static void tellingFlats() {
        DampHouse x = new DampHouse();
        Check.due("flat", x.flat(23, 3, 5, 1), 2);
        Check.due("known", x.count(9), 1);
        Check.due("was damp", x.flat(23, 3, 5, 0), 1);
        Check.due("was not", x.flat(23, 0, 0, 2), 0);
        Check.due("was unknown", x.flat(23, 0, 0, 2), 2);
        Check.due("known", x.count(9), 0);
    }

    private static void flatRefusals() {
        DampHouse x = new DampHouse();
        Check.due("flat below", x.flat(-1, 0, 0, 0), -1);
        Check.due("flat above", x.flat(24, 0, 0, 3), -1);
        Check.due("stack below", x.flat(0, -1, 0, 0), -1);
        Check.due("stack above", x.flat(0, 4, 0, 3), -1);
        Check.due("floor below", x.flat(0, 0, -1, 0), -1);
        Check.due("floor above", x.flat(0, 0, 6, -1), -1);
        Check.due("damp below", x.flat(0, 0, 0, -1), -2);
        Check.due("damp above", x.flat(0, 0, 0, 3), -2);
        Check.due("known", x.count(9), 0);
        Check.due("refusals -1", x.count(11), 6);
        Check.due("refusals -2", x.count(12), 2);
    }

    private static void beside() {
        DampHouse x = new DampHouse();
        x.flat(0, 1, 1, 1);
        x.flat(1, 2, 1, 1);
        Check.due("of one FLOOR", x.joins(), 1);
        x.flat(2, 1, 2, 1);
        Check.due("of one STACK", x.joins(), 2);
        x.flat(3, 2, 2, 1);
        Check.due("a square", x.joins(), 4);
        x.flat(4, 0, 0, 1);
        Check.due("not across a corner", x.joins(), 4);
        x.flat(5, 1, 4, 1);
        Check.due("not two FLOORS away", x.joins(), 4);
        x.flat(6, 0, 1, 0);
        Check.due("one that is not DAMP", x.joins(), 4);
        x.flat(0, 1, 1, 2);
        Check.due("unknown", x.joins(), 2);
        x.flat(3, 3, 2, 1);
        Check.due("moved", x.joins(), 0);
    }

    private static void flatsAtOnePlace() {
        DampHouse x = new DampHouse();
        x.flat(0, 0, 0, 1);
        x.flat(1, 0, 0, 1);
        Check.due("at one place they are not BESIDE", x.joins(), 0);
        x.flat(2, 0, 1, 1);
        Check.due("BESIDE both", x.joins(), 2);
        Check.due("all of all", x.chance(0), 1);
    }

    private static void chanceOfARow() {
        DampHouse x = new DampHouse();
        for (int i = 0; i < 4; i++) {
            x.flat(2 * i + 1, i, 0, i < 2 ? 1 : 0);
        }
        Check.due("three of six twos are BESIDE", x.chance(0), 3);
        Check.due("of six", x.chance(1), 6);
        x.flat(3, 1, 0, 0);
        x.flat(7, 3, 0, 1);
        Check.due("no JOINS: all have as many or more", x.chance(0), 6);
        Check.due("of six", x.chance(1), 6);
        x.flat(3, 1, 0, 1);
        x.flat(20, 3, 5, 2);
        // 0, 1 and 3: four ways of three, all have a JOIN or more.
        Check.due("all four", x.chance(0), 4);
        x.flat(5, 2, 0, 1);
        x.flat(7, 3, 0, 0);
        Check.due("0 1 2 and 1 2 3 have two", x.chance(0), 2);
        Check.due("of four", x.chance(1), 4);
    }

    private static void chanceOfAllAndNone() {
        DampHouse x = new DampHouse();
        Check.due("nothing known", x.chance(0), 1);
        Check.due("nothing known", x.chance(1), 1);
        x.flat(0, 0, 0, 0);
        x.flat(1, 0, 1, 0);
        Check.due("none is DAMP", x.chance(0), 1);
        Check.due("none is DAMP", x.chance(1), 1);
        x.flat(0, 0, 0, 1);
        Check.due("one of two", x.chance(0), 2);
        Check.due("one of two", x.chance(1), 2);
        x.flat(1, 0, 1, 1);
        Check.due("both", x.chance(0), 1);
        Check.due("both", x.chance(1), 1);
    }

    private static void chanceOfSixteen() {
        DampHouse x = new DampHouse();
        for (int i = 0; i < 16; i++) {
            x.flat(i, i % 4, i / 4, i < 8 ? 1 : 0);
        }
        Check.due("two rows of four", x.joins(), 10);
        Check.due("ways of eight", x.chance(1), 12870);
        Check.due("ways as joined as that", x.chance(0), waysBySixteenBits(8, 10));
    }

    private static int waysBySixteenBits(int damp, int joins) {
        int ways = 0;
        for (int set = 0; set < 65536; set++) {
            int found = 0;
            for (int i = 0; i < 16; i++) {
                boolean here = (set >> i & 1) == 1;
                found += here && i % 4 < 3 && (set >> i + 1 & 1) == 1 ? 1 : 0;
                found += here && i < 12 && (set >> i + 4 & 1) == 1 ? 1 : 0;
            }
            ways += Integer.bitCount(set) == damp && found >= joins ? 1 : 0;
        }
        return ways;
    }

    private static void chanceRefusals() {
        DampHouse x = new DampHouse();
        for (int i = 0; i < 16; i++) {
            x.flat(i, 0, 0, 0);
        }
        x.flat(20, 0, 0, 2);
        Check.due("sixteen are known", x.chance(1), 1);
        x.flat(20, 0, 0, 1);
        Check.due("another part, ahead of -6", x.chance(2), -2);
        Check.due("another part", x.chance(-1), -2);
        Check.due("seventeen", x.chance(0), -6);
        Check.due("seventeen", x.chance(1), -6);
        Check.due("JOINS all the same", x.joins(), 0);
        Check.due("refusals -2", x.count(12), 2);
        Check.due("refusals -6", x.count(16), 2);
    }
}
