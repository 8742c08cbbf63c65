import java.util.Arrays;
import java.util.Random;

/** Long runs of calls with fixed seeds: every answer as PlainHouse gives it, and nothing thrown but by off. */
final class RandomRunsTest {
    private static final int RUNS = 200;
    private static final int CALLS = 512;
    private static final int[] STRANGE = {-1, -2, 99, 100, 601, 1000, 100000, 1 << 30,
        Integer.MAX_VALUE, Integer.MIN_VALUE, Integer.MIN_VALUE + 1};

    private final Random random;
    private final DampHouse house = new DampHouse();
    private final PlainHouse plain = new PlainHouse();
    /** The longest step of HOURS, and in how many of a hundred each number is strange, so that several can be. */
    private final int step;
    private final int strange;
    /** In a calm run the house stays as it was set up, and READINGS are of one set of CAUSES, so that sets FIT. */
    private final boolean calm;
    private final int fitting;
    private int now = 0;
    private int calls = 0;
    private boolean asDue = true;
    private int lastReading = 0;

    private RandomRunsTest(int seed) {
        random = new Random(seed);
        step = new int[] {2, 5, 20, 60}[seed % 4];
        strange = seed % 11 == 0 ? 50 : new int[] {0, 3, 15}[seed % 3];
        calm = seed % 5 < 2;
        fitting = random.nextInt(64);
    }

    public static void main(String[] args) {
        for (int seed = 1; seed <= RUNS; seed++) {
            new RandomRunsTest(seed).run(seed);
        }
        Check.finish();
    }

    private void run(int seed) {
        if (seed % 7 == 0) {
            fill();
        }
        while (calls < CALLS && asDue) {
            String name = nextName(calls);
            call(name, arguments(name));
        }
        Check.dueThat("seed " + seed + " is as due", asDue);
    }

    private void call(String name, int... a) {
        if (asDue && calls < CALLS) {
            long got = Face.call(house, name, a);
            long want = plain.call(name, a);
            Check.due("call " + calls + ": " + name + Arrays.toString(a), got, want);
            asDue = got == want;
            calls++;
            now = plain.now();
        }
    }

    /** As many of all things as there can be, but for READINGS and HOURS, which come as the run goes on. */
    private void fill() {
        for (int i = 0; i < 12; i++) {
            call("wall", i, i % 4, random.nextInt(101), random.nextInt(2));
            call("rule", i, i % 4, i % 2, random.nextInt(100));
        }
        for (int i = 0; i < 10; i++) {
            call("cause", i < 6 ? i % 4 : random.nextInt(4), random.nextInt(4), 1 + random.nextInt(40), i);
            call("look", 1 + random.nextInt(63), 1 + random.nextInt(999));
        }
        for (int i = 0; i < 20; i++) {
            call("trial", i % 6, random.nextInt(2), random.nextInt(51), 25 * i + 5, 25 * i + 30);
        }
        for (int i = 0; i < 24; i++) {
            call("flat", i, i % 4, i / 4, i % 3);
        }
    }

    private String nextName(int call) {
        String[] setUp = {"wall", "wall", "wall", "cause", "cause", "made", "made", "outside", "room", "truth",
            "look", "rule", "flat", "flat", "trial"};
        String[] all = {"room", "room", "made", "made", "outside", "outside", "weather", "holds", "wall",
            "wallOf", "wallOf", "wallOf", "wallOf", "dry", "clean", "wet", "wet", "reading", "reading", "cause",
            "truth", "truth", "hours", "hours", "hours", "off", "tale", "best", "simple", "rivals", "look",
            "answer", "next", "plan", "trial", "trialOf", "trialOf", "flat", "flat", "joins", "chance", "rule",
            "child", "word", "due", "due", "quarrel", "count"};
        String[] quiet = {"wallOf", "reading", "truth", "hours", "hours", "off", "tale", "best", "simple", "rivals",
            "rivals", "answer", "next", "next", "plan", "plan", "plan", "trialOf", "word", "due", "due", "rule",
            "child", "quarrel", "count", "joins", "chance", "flat"};
        String[] from = call < 60 ? setUp : calm ? quiet : all;
        return from[random.nextInt(from.length)];
    }

    private int in(int least, int most) {
        if (random.nextInt(100) < strange) {
            return strangeNumber(least, most);
        }
        int pick = random.nextInt(10);
        return pick == 0 ? least : pick == 1 ? most : least + random.nextInt(most - least + 1);
    }

    private int strangeNumber(int least, int most) {
        return switch (random.nextInt(5)) {
            case 0, 1 -> STRANGE[random.nextInt(STRANGE.length)];
            case 2 -> random.nextInt();
            case 3 -> least - 1;
            default -> most + 1;
        };
    }

    private int flag() {
        return random.nextInt(2);
    }

    private int aWall() {
        return in(0, random.nextInt(4) == 0 ? 11 : 3);
    }

    private int aRoom() {
        return in(0, random.nextInt(4) == 0 ? 5 : 1);
    }

    private int[] arguments(String name) {
        return switch (name) {
            case "room" -> roomArguments();
            case "made" -> new int[] {aRoom(), in(0, 23), in(0, 999)};
            case "outside" -> outsideArguments();
            case "weather" -> new int[] {in(0, 599), in(0, 1)};
            case "holds" -> new int[] {in(-20, 30)};
            case "wall" -> new int[] {aWall(), aRoom(), in(0, 100), random.nextInt(3) == 0 ? 0 : 1};
            case "wallOf" -> new int[] {aWall(), in(0, 5)};
            case "dry" -> new int[] {in(1, random.nextInt(3) == 0 ? 50 : 8)};
            case "clean" -> new int[] {aWall()};
            case "wet" -> new int[] {aRoom()};
            case "reading" -> readingArguments();
            case "cause" -> new int[] {in(0, 3), aRoom(), in(1, 99), in(0, random.nextInt(4) == 0 ? 600 : 9)};
            case "truth" -> new int[] {in(0, 6), flag()};
            case "hours" -> new int[] {in(1, step)};
            case "off" -> new int[] {in(0, Math.max(1, (1 << Math.min(6, plain.causes())) - 1))};
            case "tale" -> new int[] {in(0, Math.max(1, (1 << Math.min(6, plain.causes())) - 1)), aWall()};
            case "simple", "chance" -> new int[] {in(0, 1)};
            case "look" -> new int[] {random.nextInt(3) == 0 ? in(0, 63) : 1 << in(0, 5), in(1, 20)};
            case "answer" -> new int[] {in(0, 15), flag()};
            case "trial" -> trialArguments();
            case "trialOf" -> new int[] {in(0, Math.max(1, plain.trials() - 1)), in(0, 2)};
            case "flat" -> new int[] {in(0, 17), in(0, 3), in(0, 5), in(0, 2)};
            case "rule" -> new int[] {now / 24 + in(0, 2), in(0, 3), in(0, 1), in(0, 99)};
            case "child" -> new int[] {flag()};
            case "word" -> new int[] {flag(), in(0, 3), flag()};
            case "due" -> new int[] {in(0, 3), in(0, 1)};
            case "quarrel" -> new int[] {in(0, 3)};
            case "count" -> new int[] {in(0, 16)};
            default -> new int[] {};
        };
    }

    private int[] roomArguments() {
        int what = in(0, 5);
        int[] most = {99, 30, 50, 50, 1, 99999};
        int v = what < 0 || what > 5 ? 20 : in(what == 0 ? 10 : 0, most[what]);
        return new int[] {aRoom(), what, v};
    }

    private int[] outsideArguments() {
        int what = in(0, 1);
        int v = random.nextInt(6) == 0 ? 99 : in(what == 0 ? -20 : 0, what == 0 ? 30 : 20);
        return new int[] {in(0, random.nextInt(3) == 0 ? 599 : Math.min(599, now + 10)), what, v};
    }

    /** A READING near what some set of CAUSES gives, so that now and then a set FITS. */
    private int[] readingArguments() {
        int wall = aWall();
        int hour = !calm && random.nextInt(4) == 0 ? in(lastReading, Math.max(lastReading, now)) : now;
        lastReading = Math.max(lastReading, Math.min(hour, now));
        int sets = 1 << Math.min(6, plain.causes());
        int set = calm ? fitting & sets - 1 : random.nextInt(sets);
        long damp = plain.dampNow(set, wall);
        int v = !calm && random.nextInt(5) == 0 ? in(0, 99999) : (int) Math.max(0, damp + random.nextInt(21) - 10);
        return new int[] {wall, hour, v, !calm && random.nextInt(3) == 0 ? in(0, 999) : 10 + random.nextInt(100)};
    }

    private int[] trialArguments() {
        int from = now + in(-1, 6);
        int to = random.nextInt(20) == 0 ? in(0, 600) : from + in(-1, 9);
        return new int[] {aRoom(), in(0, 1), in(0, 50), from, to};
    }
}
