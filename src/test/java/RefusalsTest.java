import java.util.ArrayList;
import java.util.Arrays;
import java.util.List;
import java.util.function.Supplier;

/**
 * REFUSALS of every call: the last number that is taken and the first that is refused at either end, all ways in
 * which several refusals fit at once, and that a refused call changes nothing but how many refusals there were.
 */
final class RefusalsTest {
    private static final int LOW = Integer.MIN_VALUE;
    private static final int HIGH = Integer.MAX_VALUE;
    /** So many refused calls on one object that it stays within its 512. */
    private static final int BATCH = 100;

    /** Numbers of one or more arguments next to one another, and all refusals that they are reason for. */
    private record Choice(int[] numbers, int... refusals) { }

    private final Supplier<DampHouse> state;
    private final String name;
    private final int[] order;
    private final List<int[]> refused = new ArrayList<>();
    private final List<Integer> dues = new ArrayList<>();
    private final List<int[]> taken = new ArrayList<>();

    private RefusalsTest(Supplier<DampHouse> state, String name, int... order) {
        this.state = state;
        this.name = name;
        this.order = order;
    }

    public static void main(String[] args) {
        roomsAndWeather();
        walls();
        readings();
        causes();
        looks();
        trials();
        flatsAndRules();
        fullHouse();
        neverRefused();
        Check.finish();
    }

    private static Choice[] range(int least, int most) {
        return new Choice[] {one(LOW, -4), one(least - 1, -4), one(least), one(most), one(most + 1, -6),
            one(HIGH, -6)};
    }

    /** Numbers 0 to most; others are refused all alike. */
    private static Choice[] upTo(int most, int refusal) {
        return new Choice[] {one(LOW, refusal), one(-1, refusal), one(0), one(most), one(most + 1, refusal),
            one(HIGH, refusal)};
    }

    private static Choice one(int number, int... refusals) {
        return new Choice(new int[] {number}, refusals);
    }

    private static Choice two(int first, int second, int... refusals) {
        return new Choice(new int[] {first, second}, refusals);
    }

    private static Choice[] flags() {
        return new Choice[] {one(0), one(1)};
    }

    private static Choice[] always(int refusal) {
        return new Choice[] {new Choice(new int[0], refusal)};
    }

    private static Choice[] all(Choice... choices) {
        return choices;
    }

    private static RefusalsTest busy(String name, int... order) {
        return new RefusalsTest(States::busy, name, order);
    }

    private static void roomsAndWeather() {
        busy("room", -1, -2, -4, -6).hold(upTo(5, -1), all(
                two(-1, 10, -2), two(-1, -1, -2, -4), two(6, 10, -2), two(6, HIGH, -2, -6), two(HIGH, 10, -2),
                two(LOW, LOW, -2, -4),
                two(0, LOW, -4), two(0, 9, -4), two(0, 10), two(0, 99), two(0, 100, -6), two(0, HIGH, -6),
                two(1, LOW, -4), two(1, -1, -4), two(1, 0), two(1, 30), two(1, 31, -6), two(1, HIGH, -6),
                two(2, LOW, -4), two(2, -1, -4), two(2, 0), two(2, 50), two(2, 51, -6), two(2, HIGH, -6),
                two(3, LOW, -4), two(3, -1, -4), two(3, 0), two(3, 50), two(3, 51, -6), two(3, HIGH, -6),
                two(4, LOW, -4), two(4, -1, -4), two(4, 0), two(4, 1), two(4, 2, -6), two(4, HIGH, -6),
                two(5, LOW, -4), two(5, -1, -4), two(5, 0), two(5, 99999), two(5, 100000, -6), two(5, HIGH, -6)));
        busy("made", -1, -4, -6).hold(upTo(5, -1), upTo(23, -1), range(0, 999));
        busy("outside", -2, -4, -6).hold(range(0, 599), all(
                two(-1, 0, -2), two(2, -21, -2, -4), two(2, 31, -2, -6), two(LOW, 99, -2), two(HIGH, 99, -2),
                two(0, LOW, -4), two(0, -21, -4), two(0, -20), two(0, 30), two(0, 31, -6), two(0, 98, -6),
                two(0, 99), two(0, 100, -6), two(0, HIGH, -6),
                two(1, LOW, -4), two(1, -1, -4), two(1, 0), two(1, 20), two(1, 21, -6), two(1, 98, -6),
                two(1, 99), two(1, 100, -6), two(1, HIGH, -6)));
        busy("weather", -2, -4, -6).hold(range(0, 599), upTo(1, -2));
        busy("holds", -4, -6).hold(range(-20, 30));
        busy("wet", -1).hold(upTo(5, -1));
        busy("hours", -4, -6).hold(range(1, 550));
        new RefusalsTest(DampHouse::new, "hours", -4, -6).hold(range(1, 600));
    }

    private static Choice[] toldWalls() {
        return all(one(LOW, -1), one(-1, -1), one(0), one(2, -1), one(10, -1), one(11), one(12, -1), one(HIGH, -1));
    }

    private static void walls() {
        busy("wall", -1, -4, -6).hold(upTo(11, -1), upTo(5, -1), range(0, 100), flags());
        busy("wallOf", -1, -2).hold(upTo(11, -1), upTo(5, -2));
        busy("dry", -4, -6).hold(range(1, 50));
        busy("clean", -1).hold(upTo(11, -1));
    }

    private static void readings() {
        busy("reading", -1, -3, -4, -6).hold(toldWalls(),
                all(one(LOW, -3, -4), one(-1, -3, -4), one(44, -3), one(45), one(50), one(51, -3), one(HIGH, -3)),
                range(0, 99999), range(0, 999));
        new RefusalsTest(RefusalsTest::withoutReadings, "reading", -1, -3, -4, -6).hold(toldWalls(),
                all(one(LOW, -4), one(-1, -4), one(0), one(50), one(51, -3), one(HIGH, -3)),
                range(0, 99999), range(0, 999));
        busy("tale", -1, -2).hold(upTo(7, -2), toldWalls());
    }

    private static DampHouse withoutReadings() {
        DampHouse x = new DampHouse();
        x.wall(0, 0, 50, true);
        x.wall(11, 5, 100, true);
        for (int i = 0; i < 3; i++) {
            x.cause(1, 0, 9, 20 * i);
        }
        x.hours(50);
        return x;
    }

    private static void causes() {
        busy("cause", -2, -1, -4, -6).hold(all(
                two(LOW, 0, -2), two(-1, 0, -2), two(-1, 12, -2, -1), two(4, 0, -2), two(4, -1, -2, -1),
                two(HIGH, 0, -2),
                two(0, -1, -1), two(0, 0), two(0, 1, -1), two(0, 2, -1), two(0, 11), two(0, 12, -1),
                two(1, -1, -1), two(1, 0), two(1, 1), two(1, 2, -1), two(1, 11), two(1, 12, -1), two(1, HIGH, -1),
                two(2, -1, -1), two(2, 1), two(2, 2, -1), two(2, 11), two(2, 12, -1), two(2, LOW, -1),
                two(3, -1, -1), two(3, 0), two(3, 2), two(3, 5), two(3, 6, -1), two(3, 11, -1)),
                range(1, 99), range(0, 600));
        busy("truth", -1).hold(upTo(2, -1), flags());
        busy("simple", -2).hold(upTo(1, -2));
    }

    private static void looks() {
        busy("look", -2, -4, -6).hold(upTo(63, -2), range(1, 999));
        busy("answer", -1, -3).hold(all(one(LOW, -1), one(-1, -1), one(0), one(1, -3), one(2), one(3, -1),
                one(8, -1), one(HIGH, -1)), flags());
    }

    private static void trials() {
        busy("trial", -1, -2, -3, -4, -6).hold(upTo(5, -1), upTo(1, -2), range(0, 50), all(
                two(55, 60), two(70, 71), two(70, 600), two(599, 600),
                two(55, 61, -3), two(54, 60, -3), two(60, 61, -3), two(69, 70, -3), two(50, 51, -3), two(55, 600, -3),
                two(49, 50, -3, -4), two(0, 11, -3, -4), two(LOW, 600, -3, -4), two(0, 601, -3, -4, -6),
                two(LOW, HIGH, -3, -4, -6), two(55, 601, -3, -6),
                two(20, 45, -4), two(0, 10, -4), two(-1, 5, -4), two(LOW, 0, -4), two(LOW, LOW, -4),
                two(55, 55, -4), two(62, 62, -4), two(70, 70, -4), two(71, 70, -4), two(62, 61, -4),
                two(600, 600, -4), two(HIGH, LOW, -4), two(HIGH, 600, -4), two(601, 601, -4, -6),
                two(HIGH, HIGH, -4, -6),
                two(70, 601, -6), two(600, 601, -6), two(70, HIGH, -6), two(HIGH - 1, HIGH, -6)));
        busy("trialOf", -1, -2, -3).hold(all(one(LOW, -1), one(-1, -1), one(0), one(5), one(6, -3), one(11, -3),
                one(12, -3), one(17, -3), one(18, -1), one(20, -1), one(HIGH, -1)), upTo(2, -2));
    }

    private static void flatsAndRules() {
        busy("flat", -1, -2).hold(upTo(23, -1), upTo(3, -1), upTo(5, -1), upTo(2, -2));
        busy("chance", -2, -6).hold(upTo(1, -2));
        busy("rule", -2, -4, -6).hold(all(one(LOW, -4), one(-1, -4), one(1, -4), one(2), one(25), one(26, -6),
                one(HIGH, -6)), upTo(3, -2), upTo(1, -2), range(0, 99));
        busy("word", -2).hold(flags(), upTo(3, -2), flags());
        busy("due", -2).hold(upTo(3, -2), upTo(1, -2));
        busy("quarrel", -2).hold(upTo(3, -2));
    }

    /** What has no room any more is refused as told, behind all that is wrong otherwise. */
    private static void fullHouse() {
        new RefusalsTest(States::full, "reading", -1, -3, -4, -6).hold(upTo(11, -1),
                all(one(LOW, -3, -4), one(589, -3), one(590), one(600), one(601, -3)),
                range(0, 99999), range(0, 999), always(-6));
        new RefusalsTest(States::full, "cause", -2, -1, -4, -6).hold(
                all(two(4, 0, -2), two(0, 0), two(0, 1, -1), two(3, 5), two(3, 6, -1)),
                range(1, 99), range(0, 600), always(-6));
        new RefusalsTest(States::full, "look", -2, -4, -6).hold(upTo(63, -2), range(1, 999), always(-6));
        new RefusalsTest(States::full, "trial", -1, -2, -3, -4, -6).hold(upTo(5, -1), upTo(1, -2), range(0, 50),
                all(two(599, 600, -4), two(600, 600, -4), two(600, 601, -6), two(0, 600, -3, -4), two(0, 601, -3, -4)),
                always(-6));
        new RefusalsTest(States::full, "rule", -2, -4, -6).hold(all(one(24, -4), one(25), one(26, -6)),
                upTo(3, -2), upTo(1, -2), range(0, 99), always(-6));
        new RefusalsTest(States::full, "chance", -2, -6).hold(upTo(1, -2), always(-6));
        new RefusalsTest(States::full, "hours", -4, -6).hold(all(one(LOW, -4), one(0, -4), one(1, -6), one(HIGH, -6)));
        new RefusalsTest(States::full, "truth", -1).hold(upTo(9, -1), flags());
        new RefusalsTest(States::full, "answer", -1, -3).hold(upTo(7, -1), flags());
        new RefusalsTest(States::full, "trialOf", -1, -2, -3).hold(upTo(19, -1), upTo(2, -2));
        new RefusalsTest(States::full, "tale", -1, -2).hold(upTo(63, -2), upTo(11, -1));
    }

    /** Calls that nothing can refuse, and off, whose exception is no refusal. */
    private static void neverRefused() {
        DampHouse x = States.busy();
        DampHouse twin = States.busy();
        for (int set : new int[] {LOW, -1, 8, 63, 64, HIGH}) {
            Check.due("off(" + set + ")", Face.call(x, "off", set), Face.THROWN);
        }
        for (int what : new int[] {LOW, -9, -1, 10, 17, HIGH}) {
            Check.due("count(" + what + ")", x.count(what), -9);
        }
        for (String call : new String[] {"best", "rivals", "next", "plan", "joins"}) {
            Face.call(x, call);
        }
        x.off(7);
        counted(x, new int[7], "what is never refused");
        Check.dueThat("nothing has changed", States.seenOf(x).equals(States.seenOf(twin)));
    }

    /** All ways to choose one Choice for each argument, or for several that go together. */
    private void hold(Choice[]... arguments) {
        collect(arguments, 0, new int[0], new int[0]);
        for (int[] numbers : taken) {
            take(numbers);
        }
        for (int from = 0; from < refused.size(); from += BATCH) {
            refuse(from, Math.min(refused.size(), from + BATCH));
        }
    }

    private void collect(Choice[][] arguments, int place, int[] numbers, int[] reasons) {
        if (place < arguments.length) {
            for (Choice each : arguments[place]) {
                collect(arguments, place + 1, joined(numbers, each.numbers), joined(reasons, each.refusals));
            }
            return;
        }
        if (reasons.length == 0) {
            taken.add(numbers);
            return;
        }
        for (int refusal : order) {
            if (Arrays.stream(reasons).anyMatch(reason -> reason == refusal)) {
                refused.add(numbers);
                dues.add(refusal);
                return;
            }
        }
        throw new AssertionError(name + " does not tell any of " + Arrays.toString(reasons));
    }

    private static int[] joined(int[] first, int[] second) {
        int[] both = Arrays.copyOf(first, first.length + second.length);
        System.arraycopy(second, 0, both, first.length, second.length);
        return both;
    }

    private void take(int[] numbers) {
        DampHouse x = state.get();
        int[] before = counts(x);
        long answer = Face.call(x, name, numbers);
        String call = name + Arrays.toString(numbers);
        boolean mayBeBelow = name.equals("outside") || name.equals("weather");
        Check.dueThat(call + " is taken, not " + answer, answer >= 0 && answer < 1000000000
                || answer == -9 || mayBeBelow && answer >= -20 && answer < 0);
        counted(x, before, call);
    }

    private void refuse(int from, int to) {
        DampHouse x = state.get();
        int[] counts = counts(x);
        boolean asTold = name.equals("outside") || name.equals("weather");
        for (int i = from; i < to; i++) {
            int due = dues.get(i);
            counts[-due]++;
            Check.due(name + Arrays.toString(refused.get(i)), Face.call(x, name, refused.get(i)),
                    asTold ? 1000000000L - due : due);
        }
        counted(x, counts, name);
        Check.dueThat("refused calls of " + name + " change nothing",
                States.seenOf(x).equals(States.seenOf(state.get())));
    }

    private static int[] counts(DampHouse x) {
        int[] counts = new int[7];
        for (int refusal = 1; refusal <= 6; refusal++) {
            counts[refusal] = x.count(10 + refusal);
        }
        return counts;
    }

    private static void counted(DampHouse x, int[] counts, String call) {
        for (int refusal = 1; refusal <= 6; refusal++) {
            Check.due("refusals -" + refusal + " behind " + call, x.count(10 + refusal), counts[refusal]);
        }
    }
}
