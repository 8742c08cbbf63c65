import java.util.ArrayList;
import java.util.Arrays;
import java.util.HashMap;
import java.util.List;
import java.util.Map;
import java.util.TreeMap;

/**
 * The document read a second time, slow and with nothing kept that can be worked out again:
 * what RandomRunsTest holds DampHouse against.
 */
final class PlainHouse {
    private record Told(int wall, int hour, int low, int high) { }

    private record Source(int kind, int at, int power, int from) { }

    private record Law(int day, int kind, int who, int within) { }

    private record Word(boolean dweller, int kind, boolean yes, int hour) { }

    private record Test(int room, int kind, int v, int from, int to) { }

    private record Question(int set, int price) { }

    private static final class Refused extends RuntimeException {
        private static final long serialVersionUID = 1L;
        final int number;

        Refused(int number) {
            super(null, null, false, false);
            this.number = number;
        }
    }

    /** WET and DAMP in one go of HOURS. */
    private static final class Go {
        final long[] wet = new long[6];
        final long[] damp = new long[12];
    }

    private final int[][] room = new int[6][];
    private final int[][] made = new int[6][24];
    private final TreeMap<Integer, Integer> cold = new TreeMap<>();
    private final TreeMap<Integer, Integer> rain = new TreeMap<>();
    private final int[] wallRoom = new int[12];
    private final int[] wallTable = new int[12];
    private final boolean[] wallOuter = new boolean[12];
    private final int[] mould = new int[12];
    private final Go real = new Go();
    private final List<long[]> past = new ArrayList<>();
    private final List<Told> readings = new ArrayList<>();
    private final List<Source> sources = new ArrayList<>();
    private final List<Boolean> truths = new ArrayList<>();
    private final List<Question> looks = new ArrayList<>();
    private final Map<Integer, Boolean> answers = new HashMap<>();
    private final List<Test> trials = new ArrayList<>();
    private final Map<Integer, Integer> savedByTrial = new HashMap<>();
    private final int[][] flats = new int[24][];
    private final List<Law> rules = new ArrayList<>();
    private final List<Word> words = new ArrayList<>();
    private final int[] refusals = new int[7];
    private boolean child;
    private int dry = 4;

    PlainHouse() {
        Arrays.setAll(room, i -> new int[] {40, 18, 10, 0, 0});
        Arrays.setAll(flats, i -> new int[] {0, 0, 2});
        Arrays.fill(wallRoom, -9);
    }

    /** One call of the face by its name; flags are 1 and 0. An exception is told as Long.MIN_VALUE. */
    long call(String name, int... a) {
        try {
            return switch (name) {
                case "room" -> room(a[0], a[1], a[2]);
                case "made" -> made(a[0], a[1], a[2]);
                case "outside" -> outside(a[0], a[1], a[2]);
                case "weather" -> weather(a[0], a[1]);
                case "holds" -> {
                    refuseIf(a[0] < -20, -4);
                    refuseIf(a[0] > 30, -6);
                    yield holds(a[0]);
                }
                case "wall" -> wall(a[0], a[1], a[2], a[3] == 1);
                case "wallOf" -> wallOf(a[0], a[1]);
                case "dry" -> dry(a[0]);
                case "clean" -> clean(a[0]);
                case "wet" -> {
                    refuseIf(!within(a[0], 0, 5), -1);
                    yield real.wet[a[0]];
                }
                case "reading" -> reading(a[0], a[1], a[2], a[3]);
                case "cause" -> cause(a[0], a[1], a[2], a[3]);
                case "truth" -> truth(a[0], a[1] == 1);
                case "hours" -> hours(a[0]);
                case "off" -> within(a[0], 0, sets() - 1) ? off(a[0]) : Long.MIN_VALUE;
                case "tale" -> tale(a[0], a[1]);
                case "best" -> best();
                case "simple" -> simple(a[0]);
                case "rivals" -> rivals().size();
                case "look" -> look(a[0], a[1]);
                case "answer" -> answer(a[0], a[1] == 1);
                case "next" -> next();
                case "plan" -> plan(rivals());
                case "trial" -> trial(a[0], a[1], a[2], a[3], a[4]);
                case "trialOf" -> trialOf(a[0], a[1]);
                case "flat" -> flat(a[0], a[1], a[2], a[3]);
                case "joins" -> joins(dampFlats());
                case "chance" -> chance(a[0]);
                case "rule" -> rule(a[0], a[1], a[2], a[3]);
                case "child" -> child(a[0] == 1);
                case "word" -> word(a[0] == 1, a[1], a[2] == 1);
                case "due" -> due(a[0], a[1]);
                case "quarrel" -> quarrel(a[0]);
                case "count" -> count(a[0]);
                default -> throw new AssertionError(name);
            };
        } catch (Refused refused) {
            refusals[-refused.number]++;
            boolean asTold = name.equals("outside") || name.equals("weather");
            return asTold ? 1000000000L - refused.number : refused.number;
        }
    }

    private static void refuseIf(boolean so, int number) {
        if (so) {
            throw new Refused(number);
        }
    }

    private static boolean within(int v, int least, int most) {
        return least <= v && v <= most;
    }

    int now() {
        return past.size();
    }

    int causes() {
        return sources.size();
    }

    int trials() {
        return trials.size();
    }

    /** DAMP of a WALL by THE TALE, for whoever makes up a READING; 0 if there is no such WALL. */
    long dampNow(int set, int w) {
        return told(w) ? damps(set, now()).get(now())[w] : 0;
    }

    private long room(int r, int what, int v) {
        refuseIf(!within(r, 0, 5), -1);
        refuseIf(!within(what, 0, 5), -2);
        refuseIf(v < (what == 0 ? 10 : 0), -4);
        int most = switch (what) {
            case 0 -> 99;
            case 1 -> 30;
            case 4 -> 1;
            case 5 -> 99999;
            default -> 50;
        };
        refuseIf(v > most, -6);
        long was;
        if (what == 5) {
            was = real.wet[r];
            real.wet[r] = v;
        } else {
            was = room[r][what];
            room[r][what] = v;
        }
        return was;
    }

    private long made(int r, int hour, int v) {
        refuseIf(!within(r, 0, 5) || !within(hour, 0, 23), -1);
        refuseIf(v < 0, -4);
        refuseIf(v > 999, -6);
        int was = made[r][hour];
        made[r][hour] = v;
        return was;
    }

    private long outside(int hour, int what, int v) {
        refuseIf(!within(what, 0, 1), -2);
        refuseIf(hour < 0 || v < (what == 0 ? -20 : 0), -4);
        refuseIf(hour > 599 || v != 99 && v > (what == 0 ? 30 : 20), -6);
        Map<Integer, Integer> told = what == 0 ? cold : rain;
        Integer was = v == 99 ? told.remove(hour) : told.put(hour, v);
        return was == null ? 99 : was;
    }

    private int counts(int hour, int what) {
        Map.Entry<Integer, Integer> latest = (what == 0 ? cold : rain).floorEntry(hour);
        return latest != null ? latest.getValue() : what == 0 ? 5 : 0;
    }

    private long weather(int hour, int what) {
        refuseIf(!within(what, 0, 1), -2);
        refuseIf(hour < 0, -4);
        refuseIf(hour > 599, -6);
        return counts(hour, what);
    }

    private static int holds(int t) {
        return t >= 0 ? 5 + t / 2 + (t * t) / 40 : Math.max(1, 5 - (-t) / 5);
    }

    private boolean told(int w) {
        return within(w, 0, 11) && wallRoom[w] >= 0;
    }

    private long wall(int w, int r, int table, boolean outer) {
        refuseIf(!within(w, 0, 11) || !within(r, 0, 5), -1);
        refuseIf(table < 0, -4);
        refuseIf(table > 100, -6);
        boolean was = told(w);
        wallRoom[w] = r;
        wallTable[w] = table;
        wallOuter[w] = outer;
        return was ? 0 : 1;
    }

    private int chill(int w, int hour) {
        return told(w) ? Math.max(0, (room[wallRoom[w]][1] - counts(hour, 0)) * wallTable[w] / 100) : 0;
    }

    private long wallOf(int w, int what) {
        refuseIf(!within(w, 0, 11), -1);
        refuseIf(!within(what, 0, 5), -2);
        return new long[] {wallRoom[w], wallTable[w], wallOuter[w] ? 1 : 0, real.damp[w], mould[w],
            chill(w, now())}[what];
    }

    private long dry(int v) {
        refuseIf(v < 1, -4);
        refuseIf(v > 50, -6);
        int was = dry;
        dry = v;
        return was;
    }

    private long clean(int w) {
        refuseIf(!within(w, 0, 11), -1);
        int was = mould[w];
        mould[w] = 0;
        return was;
    }

    private long reading(int w, int hour, int v, int doubt) {
        refuseIf(!told(w), -1);
        refuseIf(hour > now() || !readings.isEmpty() && hour < readings.get(readings.size() - 1).hour, -3);
        refuseIf(hour < 0 || v < 0 || doubt < 0, -4);
        refuseIf(v > 99999 || doubt > 999 || readings.size() == 60, -6);
        readings.add(new Told(w, hour, v - doubt, v + doubt));
        return readings.size() - 1;
    }

    private long cause(int kind, int at, int power, int hour) {
        refuseIf(!within(kind, 0, 3), -2);
        refuseIf(kind == 3 ? !within(at, 0, 5) : !told(at) || kind == 0 && !wallOuter[at], -1);
        refuseIf(power < 1 || hour < 0, -4);
        refuseIf(power > 99 || hour > 600 || sources.size() == 10, -6);
        sources.add(new Source(kind, at, power, hour));
        truths.add(false);
        return sources.size() - 1;
    }

    private long truth(int c, boolean on) {
        refuseIf(!within(c, 0, sources.size() - 1), -1);
        return truths.set(c, on) == on ? 0 : 1;
    }

    private void pass(Go go, int h, List<Boolean> on) {
        for (int r = 0; r < 6; r++) {
            long wet = go.wet[r] + made[r][h % 24];
            for (int c = 0; c < sources.size(); c++) {
                Source s = sources.get(c);
                if (on.get(c) && s.kind == 3 && s.at == r && h >= s.from) {
                    wet += s.power;
                }
            }
            wet = Math.min(99999, wet);
            long out = (long) room[r][0] * holds(counts(h, 0)) / 2;
            wet -= (wet - out) * (room[r][2] + room[r][3] * room[r][4]) / 100;
            long above = wet - (long) room[r][0] * holds(room[r][1]);
            if (above > 0) {
                wet -= above;
                share(go, r, h, above);
            }
            go.wet[r] = wet;
        }
        for (int c = 0; c < sources.size(); c++) {
            Source s = sources.get(c);
            if (on.get(c) && h >= s.from && s.kind < 3) {
                long rainOf = wallOuter[s.at] ? counts(h, 1) : 0;
                long times = s.kind == 0 ? rainOf : s.kind == 1 || h % 24 < 6 ? 1 : 0;
                go.damp[s.at] = Math.min(99999, go.damp[s.at] + s.power * times);
            }
        }
        for (int w = 0; w < 12; w++) {
            long off = go.damp[w] * dry;
            go.damp[w] -= off % 100 == 0 ? off / 100 : off / 100 + 1;
        }
    }

    private void share(Go go, int r, int h, long above) {
        List<Integer> own = new ArrayList<>();
        int chills = 0;
        for (int w = 0; w < 12; w++) {
            if (wallRoom[w] == r) {
                own.add(w);
                chills += chill(w, h);
            }
        }
        long rest = above;
        for (int w : own) {
            long part = chills == 0 ? 0 : above * chill(w, h) / chills;
            rest -= part;
            go.damp[w] = Math.min(99999, go.damp[w] + part);
        }
        if (!own.isEmpty()) {
            go.damp[own.get(0)] = Math.min(99999, go.damp[own.get(0)] + rest);
        }
    }

    private long hours(int n) {
        refuseIf(n < 1, -4);
        refuseIf((long) now() + n > 600, -6);
        for (int i = 0; i < n; i++) {
            int h = now();
            for (int t = 0; t < trials.size(); t++) {
                Test trial = trials.get(t);
                int place = trial.kind == 0 ? 4 : 2;
                if (trial.from == h) {
                    savedByTrial.put(t, room[trial.room][place]);
                    room[trial.room][place] = trial.kind == 0 ? 1 : trial.v;
                }
            }
            pass(real, h, truths);
            past.add(real.damp.clone());
            for (int w = 0; w < 12; w++) {
                mould[w] += real.damp[w] >= 50 ? 1 : 0;
            }
            for (int t = 0; t < trials.size(); t++) {
                Test trial = trials.get(t);
                if (trial.to == h + 1) {
                    room[trial.room][trial.kind == 0 ? 4 : 2] = savedByTrial.get(t);
                }
            }
        }
        return now();
    }

    private int sets() {
        return 1 << Math.min(6, sources.size());
    }

    /** DAMP of all WALLS as 0, 1, 2 .. HOURS have passed. */
    private List<long[]> damps(int set, int hours) {
        Go go = new Go();
        List<long[]> damps = new ArrayList<>();
        damps.add(go.damp.clone());
        List<Boolean> on = new ArrayList<>();
        for (int c = 0; c < sources.size(); c++) {
            on.add((set >> c & 1) == 1);
        }
        for (int h = 0; h < hours; h++) {
            pass(go, h, on);
            damps.add(go.damp.clone());
        }
        return damps;
    }

    private long off(int set) {
        long sum = 0;
        int last = readings.stream().mapToInt(t -> t.hour).max().orElse(0);
        List<long[]> damps = damps(set, last);
        for (Told t : readings) {
            long damp = damps.get(t.hour)[t.wall];
            sum += Math.max(0, Math.max(t.low - damp, damp - t.high));
        }
        return sum;
    }

    private long tale(int set, int w) {
        refuseIf(!told(w), -1);
        refuseIf(!within(set, 0, sets() - 1), -2);
        return dampNow(set, w);
    }

    private int best() {
        int best = -1;
        long least = 0;
        for (int size = 0; size <= 6; size++) {
            for (int set = 0; set < sets(); set++) {
                if (Integer.bitCount(set) == size) {
                    long off = off(set);
                    if (best < 0 || off < least) {
                        best = set;
                        least = off;
                    }
                }
            }
        }
        return best;
    }

    private List<Integer> fitting() {
        List<Integer> fit = new ArrayList<>();
        for (int set = 0; set < sets(); set++) {
            if (off(set) == 0) {
                fit.add(set);
            }
        }
        return fit;
    }

    private long simple(int what) {
        refuseIf(!within(what, 0, 1), -2);
        int[] bySize = new int[7];
        for (int set : fitting()) {
            bySize[Integer.bitCount(set)]++;
        }
        for (int size = 0; size < 7; size++) {
            if (bySize[size] > 0) {
                return what == 0 ? bySize[size] : size;
            }
        }
        return -9;
    }

    private List<Integer> rivals() {
        List<Integer> left = fitting();
        answers.forEach((look, yes) -> left.removeIf(set -> ((looks.get(look).set & set) != 0) != yes));
        return left;
    }

    private long look(int set, int price) {
        refuseIf(!within(set, 0, 63), -2);
        refuseIf(price < 1, -4);
        refuseIf(price > 999 || looks.size() == 8, -6);
        looks.add(new Question(set, price));
        return looks.size() - 1;
    }

    private long answer(int look, boolean yes) {
        refuseIf(!within(look, 0, looks.size() - 1), -1);
        refuseIf(answers.containsKey(look), -3);
        answers.put(look, yes);
        return rivals().size();
    }

    private static List<Integer> part(List<Integer> sets, int look, boolean yes) {
        List<Integer> left = new ArrayList<>(sets);
        left.removeIf(set -> ((look & set) != 0) != yes);
        return left;
    }

    private long next() {
        List<Integer> left = rivals();
        int next = -9;
        int least = Integer.MAX_VALUE;
        for (int i = 0; i < looks.size() && !left.isEmpty(); i++) {
            int yes = part(left, looks.get(i).set, true).size();
            int cost = looks.get(i).price * Math.max(yes, left.size() - yes);
            if (!answers.containsKey(i) && cost < least) {
                least = cost;
                next = i;
            }
        }
        return next;
    }

    private final Map<List<Integer>, Integer> plans = new HashMap<>();

    private int plan(List<Integer> left) {
        plans.clear();
        return planOf(left);
    }

    private int planOf(List<Integer> left) {
        Integer known = plans.get(left);
        if (known != null) {
            return known;
        }
        int least = Integer.MAX_VALUE;
        for (int i = 0; i < looks.size() && left.size() > 1; i++) {
            List<Integer> yes = part(left, looks.get(i).set, true);
            List<Integer> no = part(left, looks.get(i).set, false);
            if (!answers.containsKey(i) && !yes.isEmpty() && !no.isEmpty()) {
                least = Math.min(least, looks.get(i).price + Math.max(planOf(yes), planOf(no)));
            }
        }
        int cost = least == Integer.MAX_VALUE ? 0 : least;
        plans.put(left, cost);
        return cost;
    }

    private long trial(int r, int kind, int v, int from, int to) {
        refuseIf(!within(r, 0, 5), -1);
        refuseIf(!within(kind, 0, 1), -2);
        for (Test t : trials) {
            for (int h = t.from; h < t.to; h++) {
                refuseIf(t.room == r && from <= h && h < to, -3);
            }
        }
        refuseIf(from < now() || to <= from || v < 0, -4);
        refuseIf(to > 600 || v > 50 || trials.size() == 20, -6);
        trials.add(new Test(r, kind, v, from, to));
        return trials.size() - 1;
    }

    private long mean(int r, int from, int to) {
        long sum = 0;
        long n = 0;
        for (int h = Math.max(0, from); h < to; h++) {
            for (int w = 0; w < 12; w++) {
                if (wallRoom[w] == r) {
                    sum += past.get(h)[w];
                    n++;
                }
            }
        }
        return n == 0 ? 0 : sum / n;
    }

    private long trialOf(int t, int what) {
        refuseIf(!within(t, 0, trials.size() - 1), -1);
        refuseIf(!within(what, 0, 2), -2);
        Test trial = trials.get(t);
        refuseIf(trial.to > now(), -3);
        long in = mean(trial.room, trial.from, trial.to);
        long ahead = mean(trial.room, 2 * trial.from - trial.to, trial.from);
        return what == 0 ? in : what == 1 ? ahead : in < ahead ? 1 : 0;
    }

    private long flat(int f, int stack, int floor, int damp) {
        refuseIf(!within(f, 0, 23) || !within(stack, 0, 3) || !within(floor, 0, 5), -1);
        refuseIf(!within(damp, 0, 2), -2);
        int was = flats[f][2];
        flats[f] = new int[] {stack, floor, damp};
        return was;
    }

    private List<int[]> dampFlats() {
        List<int[]> damp = new ArrayList<>();
        for (int[] f : flats) {
            if (f[2] == 1) {
                damp.add(f);
            }
        }
        return damp;
    }

    private static int joins(List<int[]> chosen) {
        int joins = 0;
        for (int[] a : chosen) {
            for (int[] b : chosen) {
                // Each two is met once from below or from the left.
                boolean above = a[0] == b[0] && b[1] == a[1] + 1;
                boolean right = a[1] == b[1] && b[0] == a[0] + 1;
                joins += above || right ? 1 : 0;
            }
        }
        return joins;
    }

    private long chance(int part) {
        refuseIf(!within(part, 0, 1), -2);
        List<int[]> known = new ArrayList<>();
        for (int[] f : flats) {
            if (f[2] != 2) {
                known.add(f);
            }
        }
        refuseIf(known.size() > 16, -6);
        int damp = dampFlats().size();
        int due = joins(dampFlats());
        long ways = 0;
        for (int set = 0; set < 1 << known.size(); set++) {
            if (Integer.bitCount(set) == damp) {
                List<int[]> chosen = new ArrayList<>();
                for (int i = 0; i < known.size(); i++) {
                    if ((set >> i & 1) == 1) {
                        chosen.add(known.get(i));
                    }
                }
                ways += part == 1 || joins(chosen) >= due ? 1 : 0;
            }
        }
        return ways;
    }

    private long rule(int day, int kind, int who, int within) {
        refuseIf(!within(kind, 0, 3) || !within(who, 0, 1), -2);
        refuseIf(day < now() / 24 || within < 0, -4);
        refuseIf(day > 25 || within > 99 || rules.size() == 12, -6);
        rules.add(new Law(day, kind, who, within));
        return rules.size() - 1;
    }

    private long child(boolean there) {
        boolean was = child;
        child = there;
        return was == there ? 0 : 1;
    }

    private long word(boolean dweller, int kind, boolean yes) {
        refuseIf(!within(kind, 0, 3), -2);
        words.add(new Word(dweller, kind, yes, now()));
        return 1;
    }

    private long due(int kind, int what) {
        refuseIf(!within(kind, 0, 3) || !within(what, 0, 1), -2);
        int best = best();
        boolean there = false;
        for (int c = 0; c < sources.size(); c++) {
            there |= (best >> c & 1) == 1 && sources.get(c).kind == kind;
        }
        int day = now() / 24;
        for (Word w : words) {
            if (w.kind == kind && w.yes) {
                day = w.hour / 24;
            }
        }
        Law force = null;
        for (Law l : rules) {
            if (l.kind == kind && l.day <= day && (force == null || l.day >= force.day)) {
                force = l;
            }
        }
        if (!there || force == null) {
            return -9;
        }
        int days = child ? force.within - force.within / 2 : force.within;
        return what == 0 ? day + days : force.who;
    }

    private long quarrel(int kind) {
        refuseIf(!within(kind, 0, 3), -2);
        Word owner = null;
        Word dweller = null;
        for (Word w : words) {
            if (w.kind == kind && w.dweller) {
                dweller = w;
            } else if (w.kind == kind) {
                owner = w;
            }
        }
        return owner != null && dweller != null && owner.yes != dweller.yes ? 1 : 0;
    }

    private long count(int what) {
        if (what >= 11 && what <= 16) {
            return refusals[what - 10];
        }
        int walls = 0;
        int known = 0;
        for (int w = 0; w < 12; w++) {
            walls += told(w) ? 1 : 0;
        }
        for (int[] f : flats) {
            known += f[2] == 2 ? 0 : 1;
        }
        int truthful = 0;
        for (boolean on : truths) {
            truthful += on ? 1 : 0;
        }
        int[] all = {now(), walls, readings.size(), sources.size(), truthful, looks.size(), answers.size(),
            trials.size(), rules.size(), known};
        return within(what, 0, 9) ? all[what] : -9;
    }
}
