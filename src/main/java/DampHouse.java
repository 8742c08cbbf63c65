import java.util.Arrays;

/** Where the damp of a house comes from, and who must mend it: see README.md. */
public final class DampHouse {
    private static final int NOBODY = -1;
    private static final int OTHER = -2;
    private static final int STATE = -3;
    private static final int BELOW = -4;
    private static final int NO_ROOM = -6;
    private static final int NONE = -9;
    private static final int REFUSED_AS_TOLD = 1000000000;

    private static final int HOURS = 600;
    private static final int HOURS_OF_DAY = 24;
    private static final int DAYS = 25;
    private static final int ROOMS = 6;
    private static final int WALLS = 12;
    private static final int GRAMS = 99999;
    private static final int COLDEST = -20;
    private static final int WARMEST = 30;
    private static final int MOST_RAIN = 20;
    private static final int MISSING = 99;
    private static final int MOULDY = 50;
    private static final int GROUND_HOURS = 6;

    private static final int AIR = 0;
    private static final int WARMTH = 1;
    private static final int GAPS = 2;
    private static final int FAN = 3;
    private static final int FAN_ON = 4;
    private static final int WET = 5;
    private static final int SETTINGS = 5;
    private static final int[] ROOM_LEAST = {10, 0, 0, 0, 0, 0};
    private static final int[] ROOM_MOST = {99, 30, 50, 50, 1, GRAMS};

    private static final int RAIN_CAUSE = 0;
    private static final int PIPE_CAUSE = 1;
    private static final int GROUND_CAUSE = 2;
    private static final int BREATH_CAUSE = 3;
    private static final int KINDS = 4;

    private static final int CAUSES = 10;
    private static final int TALE_CAUSES = 6;
    private static final int SETS = 64;
    private static final int READINGS = 60;
    private static final int LOOKS = 8;
    private static final int PLAN_STATES = 6561;
    private static final int TRIALS = 20;
    private static final int RULES = 12;

    private static final int FLATS = 24;
    private static final int STACKS = 4;
    private static final int FLOORS = 6;
    private static final int KNOWN_FLATS = 16;
    private static final int UNKNOWN = 2;

    private static final int UNSAID = 0;
    private static final int YES = 1;
    private static final int NO = 2;

    private final House house = new House();
    private final State live = new State();
    private final Evidence evidence = new Evidence(house);
    private final Looks looks = new Looks();
    private final Estate estate = new Estate();
    private final Law law = new Law();
    private final Trial[] trials = new Trial[TRIALS];
    private final int[] refusals = new int[7];
    private int trialCount;
    private int hour;

    public DampHouse() {
        for (int i = 0; i < TRIALS; i++) {
            trials[i] = new Trial();
        }
        live.rooms = (1 << ROOMS) - 1;
    }

    public int room(int room, int what, int v) {
        if (!isRoom(room)) {
            return refuse(NOBODY);
        }
        if (what < AIR || what > WET) {
            return refuse(OTHER);
        }
        if (v < ROOM_LEAST[what]) {
            return refuse(BELOW);
        }
        if (v > ROOM_MOST[what]) {
            return refuse(NO_ROOM);
        }
        if (what == WET) {
            int was = live.wet[room];
            live.wet[room] = v;
            return was;
        }
        evidence.forget();
        return house.changeRoom(room, what, v);
    }

    public int made(int room, int hour, int v) {
        if (!isRoom(room) || hour < 0 || hour >= HOURS_OF_DAY) {
            return refuse(NOBODY);
        }
        if (v < 0) {
            return refuse(BELOW);
        }
        if (v > 999) {
            return refuse(NO_ROOM);
        }
        evidence.forget();
        int[] grams = house.rooms[room].made;
        int was = grams[hour];
        grams[hour] = v;
        return was;
    }

    public int outside(int hour, int what, int v) {
        if (what != 0 && what != 1) {
            return refuseAsTold(OTHER);
        }
        int least = what == 0 ? COLDEST : 0;
        int most = what == 0 ? WARMEST : MOST_RAIN;
        // -4 is told ahead of -6, whichever of the two numbers it is of.
        if (hour < 0 || v < least) {
            return refuseAsTold(BELOW);
        }
        if (hour >= HOURS || (v > most && v != MISSING)) {
            return refuseAsTold(NO_ROOM);
        }
        evidence.forget();
        return house.outsideOf(what).tell(hour, v);
    }

    public int weather(int hour, int what) {
        if (what != 0 && what != 1) {
            return refuseAsTold(OTHER);
        }
        if (hour < 0) {
            return refuseAsTold(BELOW);
        }
        if (hour >= HOURS) {
            return refuseAsTold(NO_ROOM);
        }
        return house.outsideOf(what).at(hour);
    }

    public int holds(int t) {
        if (t < COLDEST) {
            return refuse(BELOW);
        }
        if (t > WARMEST) {
            return refuse(NO_ROOM);
        }
        return House.gramsHeld(t);
    }

    public int wall(int wall, int room, int table, boolean outer) {
        if (!isWall(wall) || !isRoom(room)) {
            return refuse(NOBODY);
        }
        if (table < 0) {
            return refuse(BELOW);
        }
        if (table > 100) {
            return refuse(NO_ROOM);
        }
        evidence.forget();
        Wall told = house.walls[wall];
        int answer = told.isTold() ? 0 : 1;
        told.room = room;
        told.table = table;
        told.outer = outer;
        return answer;
    }

    public int wallOf(int wall, int what) {
        if (!isWall(wall)) {
            return refuse(NOBODY);
        }
        Wall asked = house.walls[wall];
        switch (what) {
            case 0:
                return asked.room;
            case 1:
                return asked.table;
            case 2:
                return asked.outer ? 1 : 0;
            case 3:
                return live.damp[wall];
            case 4:
                return asked.mould;
            case 5:
                return house.chillNow(wall, hour);
            default:
                return refuse(OTHER);
        }
    }

    public int dry(int v) {
        if (v < 1) {
            return refuse(BELOW);
        }
        if (v > 50) {
            return refuse(NO_ROOM);
        }
        evidence.forget();
        int was = house.dryness;
        house.dryness = v;
        return was;
    }

    public int clean(int wall) {
        if (!isWall(wall)) {
            return refuse(NOBODY);
        }
        int was = house.walls[wall].mould;
        house.walls[wall].mould = 0;
        return was;
    }

    public int wet(int room) {
        return isRoom(room) ? live.wet[room] : refuse(NOBODY);
    }

    public int reading(int wall, int hour, int v, int doubt) {
        if (!house.isToldWall(wall)) {
            return refuse(NOBODY);
        }
        if (hour > this.hour || evidence.isAheadOfLast(hour)) {
            return refuse(STATE);
        }
        if (hour < 0 || v < 0 || doubt < 0) {
            return refuse(BELOW);
        }
        if (v > GRAMS || doubt > 999 || evidence.size >= READINGS) {
            return refuse(NO_ROOM);
        }
        evidence.forget();
        return evidence.keep(wall, hour, v - doubt, v + doubt);
    }

    public int cause(int kind, int at, int power, int hour) {
        if (!isKind(kind)) {
            return refuse(OTHER);
        }
        if (!house.canBeAt(kind, at)) {
            return refuse(NOBODY);
        }
        if (power < 1 || hour < 0) {
            return refuse(BELOW);
        }
        if (power > 99 || hour > HOURS || house.causeCount >= CAUSES) {
            return refuse(NO_ROOM);
        }
        return house.addCause(kind, at, power, hour);
    }

    public int truth(int cause, boolean on) {
        if (cause < 0 || cause >= house.causeCount) {
            return refuse(NOBODY);
        }
        int bit = 1 << cause;
        boolean was = (live.active & bit) != 0;
        if (was == on) {
            return 0;
        }
        live.active ^= bit;
        return 1;
    }

    public int hours(int n) {
        if (n < 1) {
            return refuse(BELOW);
        }
        if (n > HOURS - hour) {
            return refuse(NO_ROOM);
        }
        // A TRIAL that begins or ends changes what THE TALE goes by.
        evidence.forget();
        for (int i = 0; i < n; i++) {
            liveOneHour();
        }
        return hour;
    }

    public long off(int set) throws IllegalArgumentException {
        if (!evidence.isSet(set)) {
            throw new IllegalArgumentException("other bits than of the first causes");
        }
        return evidence.offOf(set);
    }

    public int tale(int set, int wall) {
        if (!house.isToldWall(wall)) {
            return refuse(NOBODY);
        }
        if (!evidence.isSet(set)) {
            return refuse(OTHER);
        }
        return evidence.dampByTale(set, wall, hour);
    }

    public int best() {
        return evidence.bestSet();
    }

    public int simple(int what) {
        if (what != 0 && what != 1) {
            return refuse(OTHER);
        }
        int fewest = evidence.fewestThatFit();
        if (fewest == NONE || what == 1) {
            return fewest;
        }
        return evidence.fittingOfSize(fewest);
    }

    public int rivals() {
        return Long.bitCount(rivalSets());
    }

    public int look(int set, int price) {
        if (set < 0 || set >= SETS) {
            return refuse(OTHER);
        }
        if (price < 1) {
            return refuse(BELOW);
        }
        if (price > 999 || looks.size >= LOOKS) {
            return refuse(NO_ROOM);
        }
        return looks.keep(set, price);
    }

    public int answer(int look, boolean yes) {
        if (look < 0 || look >= looks.size || look >= LOOKS) {
            return refuse(NOBODY);
        }
        if (looks.answers[look] != UNSAID) {
            return refuse(STATE);
        }
        looks.answers[look] = yes ? YES : NO;
        return Long.bitCount(rivalSets());
    }

    public int next() {
        return looks.cheapestNext(rivalSets());
    }

    public int plan() {
        return looks.worstCost(rivalSets());
    }

    public int trial(int room, int kind, int v, int from, int to) {
        if (!isRoom(room)) {
            return refuse(NOBODY);
        }
        if (kind != 0 && kind != 1) {
            return refuse(OTHER);
        }
        if (hasTrialIn(room, from, to)) {
            return refuse(STATE);
        }
        if (v < 0 || from < hour || to <= from) {
            return refuse(BELOW);
        }
        if (v > ROOM_MOST[GAPS] || to > HOURS || trialCount >= TRIALS) {
            return refuse(NO_ROOM);
        }
        Trial told = trials[trialCount];
        told.room = room;
        told.setting = kind == 0 ? FAN_ON : GAPS;
        told.value = kind == 0 ? 1 : v;
        told.from = from;
        told.to = to;
        trialCount++;
        return trialCount - 1;
    }

    public int trialOf(int trial, int what) {
        if (trial < 0 || trial >= trialCount || trial >= TRIALS) {
            return refuse(NOBODY);
        }
        if (what < 0 || what > 2) {
            return refuse(OTHER);
        }
        Trial asked = trials[trial];
        if (hour < asked.to) {
            return refuse(STATE);
        }
        int inIt = house.meanDamp(asked.room, asked.from, asked.to);
        int aheadOfIt = house.meanDamp(asked.room, asked.from - (asked.to - asked.from), asked.from);
        if (what == 2) {
            return inIt < aheadOfIt ? 1 : 0;
        }
        return what == 0 ? inIt : aheadOfIt;
    }

    public int flat(int flat, int stack, int floor, int damp) {
        if (flat < 0 || flat >= FLATS || stack < 0 || stack >= STACKS || floor < 0 || floor >= FLOORS) {
            return refuse(NOBODY);
        }
        if (damp < 0 || damp > UNKNOWN) {
            return refuse(OTHER);
        }
        return estate.tell(flat, stack, floor, damp);
    }

    public int joins() {
        return estate.dampJoins();
    }

    public int chance(int part) {
        if (part != 0 && part != 1) {
            return refuse(OTHER);
        }
        if (estate.knownFlats() > KNOWN_FLATS) {
            return refuse(NO_ROOM);
        }
        return estate.waysWith(part == 0 ? estate.dampJoins() : 0);
    }

    public int rule(int day, int kind, int who, int within) {
        if (!isKind(kind) || who < 0 || who > 1) {
            return refuse(OTHER);
        }
        if (day < hour / HOURS_OF_DAY || within < 0) {
            return refuse(BELOW);
        }
        if (day > DAYS || within > 99 || law.size >= RULES) {
            return refuse(NO_ROOM);
        }
        return law.keep(day, kind, who, within);
    }

    public int child(boolean there) {
        if (law.hasChild == there) {
            return 0;
        }
        law.hasChild = there;
        return 1;
    }

    public int word(boolean dweller, int kind, boolean yes) {
        if (!isKind(kind)) {
            return refuse(OTHER);
        }
        law.hear(dweller, kind, yes, hour);
        return 1;
    }

    public int due(int kind, int what) {
        if (!isKind(kind) || (what != 0 && what != 1)) {
            return refuse(OTHER);
        }
        if (!house.hasKindIn(evidence.bestSet(), kind)) {
            return NONE;
        }
        int day = law.dayOfYes(kind, hour);
        int rule = law.inForce(kind, day);
        if (rule == NONE) {
            return NONE;
        }
        return what == 0 ? day + law.daysOf(rule) : law.whoOf(rule);
    }

    public int quarrel(int kind) {
        if (!isKind(kind)) {
            return refuse(OTHER);
        }
        return law.isQuarrel(kind) ? 1 : 0;
    }

    public int count(int what) {
        switch (what) {
            case 0:
                return hour;
            case 1:
                return house.toldWalls();
            case 2:
                return evidence.size;
            case 3:
                return house.causeCount;
            case 4:
                return Integer.bitCount(live.active);
            case 5:
                return looks.size;
            case 6:
                return looks.answered();
            case 7:
                return trialCount;
            case 8:
                return law.size;
            case 9:
                return estate.knownFlats();
            default:
                return what >= 11 && what <= 16 ? refusals[what - 10] : NONE;
        }
    }

    private int refuse(int number) {
        int place = -number;
        if (place >= 0 && place < refusals.length) {
            refusals[place]++;
        }
        return number;
    }

    private int refuseAsTold(int number) {
        return REFUSED_AS_TOLD - refuse(number);
    }

    private long rivalSets() {
        return looks.leftOf(evidence.fitSets());
    }

    private void liveOneHour() {
        beginTrials();
        house.passHour(live, hour);
        house.noteHour(live, hour);
        hour++;
        endTrials();
    }

    private void beginTrials() {
        for (int i = 0; i < trialCount && i < TRIALS; i++) {
            Trial each = trials[i];
            if (each.from == hour) {
                each.before = house.changeRoom(each.room, each.setting, each.value);
            }
        }
    }

    private void endTrials() {
        for (int i = 0; i < trialCount && i < TRIALS; i++) {
            Trial each = trials[i];
            if (each.to == hour) {
                house.changeRoom(each.room, each.setting, each.before);
            }
        }
    }

    private boolean hasTrialIn(int room, int from, int to) {
        for (int i = 0; i < trialCount && i < TRIALS; i++) {
            Trial each = trials[i];
            // Without the first test a span with no HOURS in it would meet a TRIAL.
            if (from < to && each.room == room && from < each.to && each.from < to) {
                return true;
            }
        }
        return false;
    }

    private static boolean isRoom(int room) {
        return room >= 0 && room < ROOMS;
    }

    private static boolean isWall(int wall) {
        return wall >= 0 && wall < WALLS;
    }

    private static boolean isKind(int kind) {
        return kind >= 0 && kind < KINDS;
    }

    /** COLD or RAIN of all HOURS, as told and as it counts. */
    private static final class Series {
        private final int first;
        private final int[] told = new int[HOURS + 1];
        private final int[] counting = new int[HOURS + 1];

        Series(int first) {
            this.first = first;
            Arrays.fill(told, MISSING);
            Arrays.fill(counting, first);
        }

        int tell(int hour, int v) {
            if (hour < 0 || hour >= told.length) {
                return MISSING;
            }
            int was = told[hour];
            told[hour] = v;
            int latest = at(hour - 1);
            for (int h = hour; h < told.length; h++) {
                if (told[h] != MISSING) {
                    latest = told[h];
                }
                counting[h] = latest;
            }
            return was;
        }

        int at(int hour) {
            return hour < 0 || hour >= counting.length ? first : counting[hour];
        }
    }

    /** What is told of a ROOM; its WET is in a State. */
    private static final class Room {
        final int[] settings = {40, 18, 10, 0, 0};
        final int[] made = new int[HOURS_OF_DAY];

        int change(int what, int v) {
            if (what < 0 || what >= SETTINGS) {
                return 0;
            }
            int was = settings[what];
            settings[what] = v;
            return was;
        }

        int changedAir() {
            return settings[GAPS] + (settings[FAN_ON] == 1 ? settings[FAN] : 0);
        }
    }

    /** What is told of a WALL, its MOULD and its DAMP at the ends of HOURS; its DAMP is in a State. */
    private static final class Wall {
        int room = NONE;
        int table;
        boolean outer;
        int mould;
        final int[] dampAfter = new int[HOURS];

        boolean isTold() {
            return isRoom(room);
        }

        int chillAt(int degreesApart) {
            int chill = degreesApart * table / 100;
            return chill < 0 ? 0 : chill;
        }
    }

    private static final class Cause {
        int kind;
        int at;
        int power;
        int from;
    }

    private static final class Trial {
        int room;
        int setting;
        int value;
        int from;
        int to;
        int before;
    }

    /** WET and DAMP as they are, or as THE TALE has them, and the CAUSES and ROOMS that count there. */
    private static final class State {
        final int[] wet = new int[ROOMS];
        final int[] damp = new int[WALLS];
        int active;
        int rooms;

        void begin(int active, int rooms) {
            Arrays.fill(wet, 0);
            Arrays.fill(damp, 0);
            this.active = active;
            this.rooms = rooms;
        }

        void addWet(int room, int grams) {
            if (room >= 0 && room < wet.length) {
                int sum = wet[room] + grams;
                wet[room] = sum > GRAMS ? GRAMS : sum;
            }
        }

        void addDamp(int wall, int grams) {
            if (wall >= 0 && wall < damp.length) {
                int sum = damp[wall] + grams;
                damp[wall] = sum > GRAMS ? GRAMS : sum;
            }
        }
    }

    /** ROOMS, WALLS, CAUSES and OUTSIDE, and how an HOUR passes in them. */
    private static final class House {
        final Room[] rooms = new Room[ROOMS];
        final Wall[] walls = new Wall[WALLS];
        final Cause[] causes = new Cause[CAUSES];
        final Series cold = new Series(5);
        final Series rain = new Series(0);
        int causeCount;
        int dryness = 4;

        House() {
            for (int i = 0; i < ROOMS; i++) {
                rooms[i] = new Room();
            }
            for (int i = 0; i < WALLS; i++) {
                walls[i] = new Wall();
            }
            for (int i = 0; i < CAUSES; i++) {
                causes[i] = new Cause();
            }
        }

        int changeRoom(int room, int what, int v) {
            return isRoom(room) ? rooms[room].change(what, v) : 0;
        }

        static int gramsHeld(int t) {
            if (t >= 0) {
                return 5 + t / 2 + t * t / 40;
            }
            int held = 5 - Math.abs(t) / 5;
            return held < 1 ? 1 : held;
        }

        Series outsideOf(int what) {
            return what == 0 ? cold : rain;
        }

        boolean isToldWall(int wall) {
            return isWall(wall) && walls[wall].isTold();
        }

        int toldWalls() {
            int told = 0;
            for (int i = 0; i < WALLS; i++) {
                told += walls[i].isTold() ? 1 : 0;
            }
            return told;
        }

        int roomsWithWalls() {
            int bits = 0;
            for (int i = 0; i < WALLS; i++) {
                if (walls[i].isTold()) {
                    bits |= 1 << walls[i].room;
                }
            }
            return bits;
        }

        boolean canBeAt(int kind, int at) {
            if (kind == BREATH_CAUSE) {
                return isRoom(at);
            }
            return isToldWall(at) && (kind != RAIN_CAUSE || walls[at].outer);
        }

        int addCause(int kind, int at, int power, int from) {
            if (causeCount >= CAUSES) {
                return NONE;
            }
            Cause told = causes[causeCount];
            told.kind = kind;
            told.at = at;
            told.power = power;
            told.from = from;
            causeCount++;
            return causeCount - 1;
        }

        int firstCauses() {
            return causeCount < TALE_CAUSES ? causeCount : TALE_CAUSES;
        }

        boolean hasKindIn(int set, int kind) {
            for (int i = 0; i < causeCount && i < CAUSES; i++) {
                if ((set >> i & 1) != 0 && causes[i].kind == kind) {
                    return true;
                }
            }
            return false;
        }

        int chillNow(int wall, int hour) {
            if (!isToldWall(wall)) {
                return 0;
            }
            int warmth = rooms[walls[wall].room].settings[WARMTH];
            return walls[wall].chillAt(warmth - cold.at(hour));
        }

        void passHour(State state, int hour) {
            int outside = cold.at(hour);
            breathe(state, hour);
            for (int i = 0; i < ROOMS; i++) {
                if ((state.rooms >> i & 1) != 0) {
                    airRoom(state, i, hour, outside);
                }
            }
            soakWalls(state, hour);
            dryWalls(state);
        }

        void noteHour(State state, int hour) {
            if (hour < 0 || hour >= HOURS) {
                return;
            }
            for (int i = 0; i < WALLS; i++) {
                walls[i].dampAfter[hour] = state.damp[i];
                if (state.damp[i] >= MOULDY) {
                    walls[i].mould++;
                }
            }
        }

        int meanDamp(int room, int from, int to) {
            int first = from < 0 ? 0 : from;
            int last = to > HOURS ? HOURS : to;
            long sum = 0;
            long values = 0;
            for (int i = 0; i < WALLS; i++) {
                if (walls[i].room == room) {
                    for (int h = first; h < last; h++) {
                        sum += walls[i].dampAfter[h];
                        values++;
                    }
                }
            }
            return values == 0 ? 0 : (int) (sum / values);
        }

        private boolean acts(State state, int cause, int hour) {
            return (state.active >> cause & 1) != 0 && hour >= causes[cause].from;
        }

        // All ROOMS at once: what is breathed in one changes no other.
        private void breathe(State state, int hour) {
            for (int i = 0; i < causeCount && i < CAUSES; i++) {
                if (causes[i].kind == BREATH_CAUSE && acts(state, i, hour)) {
                    state.addWet(causes[i].at, causes[i].power);
                }
            }
        }

        private void airRoom(State state, int room, int hour, int outside) {
            Room aired = rooms[room];
            state.addWet(room, aired.made[Math.floorMod(hour, HOURS_OF_DAY)]);
            int wet = state.wet[room];
            int air = aired.settings[AIR];
            int out = air * gramsHeld(outside) / 2;
            wet -= (wet - out) * aired.changedAir() / 100;
            int warmth = aired.settings[WARMTH];
            int most = air * gramsHeld(warmth);
            if (wet > most) {
                giveToWalls(state, room, wet - most, warmth - outside);
                wet = most;
            }
            state.wet[room] = wet;
        }

        private void giveToWalls(State state, int room, int grams, int degreesApart) {
            int least = NONE;
            int chills = 0;
            for (int i = WALLS - 1; i >= 0; i--) {
                if (walls[i].room == room) {
                    least = i;
                    chills += walls[i].chillAt(degreesApart);
                }
            }
            int left = grams;
            for (int i = 0; i < WALLS && chills > 0; i++) {
                if (walls[i].room == room) {
                    int share = grams * walls[i].chillAt(degreesApart) / chills;
                    state.addDamp(i, share);
                    left -= share;
                }
            }
            if (least != NONE) {
                state.addDamp(least, left);
            }
        }

        private void soakWalls(State state, int hour) {
            for (int i = 0; i < causeCount && i < CAUSES; i++) {
                if (causes[i].kind != BREATH_CAUSE && acts(state, i, hour)) {
                    state.addDamp(causes[i].at, soakedBy(causes[i], hour));
                }
            }
        }

        private int soakedBy(Cause cause, int hour) {
            switch (cause.kind) {
                case RAIN_CAUSE:
                    // A WALL may have been told anew as not OUTER.
                    return isWall(cause.at) && walls[cause.at].outer ? cause.power * rain.at(hour) : 0;
                case PIPE_CAUSE:
                    return cause.power;
                case GROUND_CAUSE:
                    return Math.floorMod(hour, HOURS_OF_DAY) < GROUND_HOURS ? cause.power : 0;
                default:
                    return 0;
            }
        }

        private void dryWalls(State state) {
            for (int i = 0; i < WALLS; i++) {
                int damp = state.damp[i];
                if (damp > 0) {
                    state.damp[i] = damp - (damp * dryness + 99) / 100;
                }
            }
        }
    }

    /** READINGS, and what THE TALES of sets of CAUSES say to them. */
    private static final class Evidence {
        private final House house;
        private final State tale = new State();
        private final int[] wallOfReading = new int[READINGS];
        private final int[] hourOfReading = new int[READINGS];
        private final int[] least = new int[READINGS];
        private final int[] most = new int[READINGS];
        private final long[] offs = new long[SETS];
        private long knownOffs;
        int size;

        Evidence(House house) {
            this.house = house;
        }

        /** OFF of a set is kept, as 64 TALES are dear: all that THE TALE goes by must end that. */
        void forget() {
            knownOffs = 0;
        }

        boolean isAheadOfLast(int hour) {
            return size > 0 && size <= READINGS && hour < hourOfReading[size - 1];
        }

        int keep(int wall, int hour, int low, int high) {
            if (size >= READINGS) {
                return NONE;
            }
            wallOfReading[size] = wall;
            hourOfReading[size] = hour;
            least[size] = low;
            most[size] = high;
            size++;
            return size - 1;
        }

        boolean isSet(int set) {
            return set >= 0 && set < sets();
        }

        long offOf(int set) {
            if (!isSet(set)) {
                return 0;
            }
            if ((knownOffs >> set & 1) != 0) {
                return offs[set];
            }
            tale.begin(set, house.roomsWithWalls());
            long sum = 0;
            int passed = 0;
            // READINGS are kept in the order of their HOURS, so that one TALE serves them all.
            for (int i = 0; i < size && i < READINGS; i++) {
                for (int h = passed; h < hourOfReading[i]; h++) {
                    house.passHour(tale, h);
                }
                passed = hourOfReading[i];
                sum += missedBy(i);
            }
            offs[set] = sum;
            knownOffs |= 1L << set;
            return sum;
        }

        int dampByTale(int set, int wall, int now) {
            tale.begin(set, house.roomsWithWalls());
            for (int h = 0; h < now && h < HOURS; h++) {
                house.passHour(tale, h);
            }
            return isWall(wall) ? tale.damp[wall] : 0;
        }

        int bestSet() {
            int best = 0;
            for (int set = 1; set < sets(); set++) {
                long less = offOf(best) - offOf(set);
                if (less > 0 || (less == 0 && Integer.bitCount(set) < Integer.bitCount(best))) {
                    best = set;
                }
            }
            return best;
        }

        /** The sets that FIT, each as the bit of its number. */
        long fitSets() {
            long fit = 0;
            for (int set = 0; set < sets(); set++) {
                if (offOf(set) == 0) {
                    fit |= 1L << set;
                }
            }
            return fit;
        }

        int fewestThatFit() {
            int fewest = NONE;
            for (int set = 0; set < sets(); set++) {
                int causes = Integer.bitCount(set);
                if (offOf(set) == 0 && (fewest == NONE || causes < fewest)) {
                    fewest = causes;
                }
            }
            return fewest;
        }

        int fittingOfSize(int causes) {
            int fitting = 0;
            for (int set = 0; set < sets(); set++) {
                if (Integer.bitCount(set) == causes && offOf(set) == 0) {
                    fitting++;
                }
            }
            return fitting;
        }

        private int sets() {
            return 1 << house.firstCauses();
        }

        private int missedBy(int reading) {
            if (reading < 0 || reading >= READINGS || !isWall(wallOfReading[reading])) {
                return 0;
            }
            int damp = tale.damp[wallOfReading[reading]];
            if (damp < least[reading]) {
                return least[reading] - damp;
            }
            return damp > most[reading] ? damp - most[reading] : 0;
        }
    }

    /** LOOKS and what they leave of sets, each of which is the bit of its number. */
    private static final class Looks {
        private final long[] yesSets = new long[LOOKS];
        private final int[] prices = new int[LOOKS];
        private final int[] costs = new int[PLAN_STATES];
        final int[] answers = new int[LOOKS];
        int size;

        int keep(int causes, int price) {
            if (size >= LOOKS) {
                return NONE;
            }
            long yes = 0;
            for (int set = 0; set < SETS; set++) {
                if ((set & causes) != 0) {
                    yes |= 1L << set;
                }
            }
            yesSets[size] = yes;
            prices[size] = price;
            size++;
            return size - 1;
        }

        int answered() {
            int told = 0;
            for (int i = 0; i < size && i < LOOKS; i++) {
                told += answers[i] == UNSAID ? 0 : 1;
            }
            return told;
        }

        long leftOf(long sets) {
            long left = sets;
            for (int i = 0; i < size && i < LOOKS; i++) {
                if (answers[i] == YES) {
                    left &= yesSets[i];
                } else if (answers[i] == NO) {
                    left &= ~yesSets[i];
                }
            }
            return left;
        }

        int cheapestNext(long rivals) {
            int cheapest = NONE;
            int least = 0;
            for (int i = 0; i < size && i < LOOKS && rivals != 0; i++) {
                int yes = Long.bitCount(rivals & yesSets[i]);
                int no = Long.bitCount(rivals & ~yesSets[i]);
                int cost = prices[i] * Math.max(yes, no);
                if (answers[i] == UNSAID && (cheapest == NONE || cost < least)) {
                    cheapest = i;
                    least = cost;
                }
            }
            return cheapest;
        }

        int worstCost(long rivals) {
            Arrays.fill(costs, NONE);
            return costFrom(rivals, 0, 0);
        }

        /** What came so far is a number in threes: of each LOOK 0 not asked, 1 yes, 2 no. */
        private int costFrom(long rivals, int came, int depth) {
            if (Long.bitCount(rivals) <= 1 || came < 0 || came >= PLAN_STATES || depth > LOOKS) {
                return 0;
            }
            if (costs[came] != NONE) {
                return costs[came];
            }
            int least = NONE;
            int three = 1;
            for (int i = 0; i < size && i < LOOKS; i++) {
                long yes = rivals & yesSets[i];
                long no = rivals & ~yesSets[i];
                // One that was asked or ANSWERED parts nothing any more.
                if (yes != 0 && no != 0) {
                    int worse = Math.max(costFrom(yes, came + three, depth + 1),
                            costFrom(no, came + 2 * three, depth + 1));
                    least = least == NONE ? prices[i] + worse : Math.min(least, prices[i] + worse);
                }
                three *= 3;
            }
            costs[came] = least == NONE ? 0 : least;
            return costs[came];
        }
    }

    /** FLATS, and by how much their DAMP is more than chance. */
    private static final class Estate {
        private final int[] stacks = new int[FLATS];
        private final int[] floors = new int[FLATS];
        private final int[] damps = new int[FLATS];
        private final int[] besides = new int[KNOWN_FLATS];

        Estate() {
            Arrays.fill(damps, UNKNOWN);
        }

        int tell(int flat, int stack, int floor, int damp) {
            if (flat < 0 || flat >= FLATS) {
                return UNKNOWN;
            }
            int was = damps[flat];
            stacks[flat] = stack;
            floors[flat] = floor;
            damps[flat] = damp;
            return was;
        }

        int knownFlats() {
            int known = 0;
            for (int i = 0; i < FLATS; i++) {
                known += damps[i] == UNKNOWN ? 0 : 1;
            }
            return known;
        }

        int dampJoins() {
            int both = 0;
            for (int i = 0; i < FLATS; i++) {
                for (int j = 0; j < i; j++) {
                    if (damps[i] == 1 && damps[j] == 1 && areBeside(i, j)) {
                        both++;
                    }
                }
            }
            return both;
        }

        /** In how many ways as many known FLATS as are DAMP have so many JOINS or more. */
        int waysWith(int joins) {
            int known = 0;
            int damp = 0;
            for (int i = 0; i < FLATS; i++) {
                if (damps[i] != UNKNOWN && known < KNOWN_FLATS) {
                    besides[known] = earlierBeside(i);
                    known++;
                    damp += damps[i];
                }
            }
            return waysFrom(0, known, damp, 0, joins);
        }

        /** The known FLATS of lesser numbers that are BESIDE one, as bits of their places among the known. */
        private int earlierBeside(int flat) {
            int bits = 0;
            int place = 0;
            for (int i = 0; i < flat && i < FLATS; i++) {
                if (damps[i] != UNKNOWN) {
                    if (areBeside(i, flat)) {
                        bits |= 1 << place;
                    }
                    place++;
                }
            }
            return bits;
        }

        // Each level chooses one place more, so it goes no deeper than there are known FLATS.
        private int waysFrom(int place, int known, int toChoose, int chosen, int joinsLeft) {
            if (toChoose == 0) {
                return joinsLeft <= 0 ? 1 : 0;
            }
            int ways = 0;
            for (int i = place; i <= known - toChoose && i < KNOWN_FLATS; i++) {
                int more = Integer.bitCount(besides[i] & chosen);
                ways += waysFrom(i + 1, known, toChoose - 1, chosen | 1 << i, joinsLeft - more);
            }
            return ways;
        }

        private boolean areBeside(int one, int other) {
            int stacksApart = Math.abs(stacks[one] - stacks[other]);
            int floorsApart = Math.abs(floors[one] - floors[other]);
            return stacksApart + floorsApart == 1;
        }
    }

    /** RULES, WORDS and the CHILD. */
    private static final class Law {
        private final int[] ruleDay = new int[RULES];
        private final int[] ruleKind = new int[RULES];
        private final int[] ruleWho = new int[RULES];
        private final int[] ruleWithin = new int[RULES];
        private final int[] ownerSaid = new int[KINDS];
        private final int[] dwellerSaid = new int[KINDS];
        private final int[] latestYes = new int[KINDS];
        boolean hasChild;
        int size;

        Law() {
            Arrays.fill(latestYes, NONE);
        }

        int keep(int day, int kind, int who, int within) {
            if (size >= RULES) {
                return NONE;
            }
            ruleDay[size] = day;
            ruleKind[size] = kind;
            ruleWho[size] = who;
            ruleWithin[size] = within;
            size++;
            return size - 1;
        }

        void hear(boolean dweller, int kind, boolean yes, int hour) {
            if (!isKind(kind)) {
                return;
            }
            int[] said = dweller ? dwellerSaid : ownerSaid;
            said[kind] = yes ? YES : NO;
            if (yes) {
                latestYes[kind] = hour;
            }
        }

        boolean isQuarrel(int kind) {
            return isKind(kind) && ownerSaid[kind] != UNSAID && dwellerSaid[kind] != UNSAID
                    && ownerSaid[kind] != dwellerSaid[kind];
        }

        /** The DAY of the latest yes, though it may have been taken back since; of now without one. */
        int dayOfYes(int kind, int now) {
            boolean said = isKind(kind) && latestYes[kind] != NONE;
            return (said ? latestYes[kind] : now) / HOURS_OF_DAY;
        }

        int inForce(int kind, int day) {
            int rule = NONE;
            int latest = NONE;
            for (int i = 0; i < size && i < RULES; i++) {
                if (ruleKind[i] == kind && ruleDay[i] <= day && ruleDay[i] >= latest) {
                    rule = i;
                    latest = ruleDay[i];
                }
            }
            return rule;
        }

        int daysOf(int rule) {
            if (rule < 0 || rule >= RULES) {
                return 0;
            }
            return hasChild ? (ruleWithin[rule] + 1) / 2 : ruleWithin[rule];
        }

        int whoOf(int rule) {
            return rule < 0 || rule >= RULES ? NONE : ruleWho[rule];
        }
    }
}
