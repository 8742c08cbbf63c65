/** The document's face by the names of its calls, for tests that go over all of them. */
final class Face {
    /** What stands for the exception of off. */
    static final long THROWN = Long.MIN_VALUE;

    private Face() {
    }

    /** One call by its name; flags are 1 and 0. */
    static long call(DampHouse house, String name, int... a) {
        return switch (name) {
            case "room" -> house.room(a[0], a[1], a[2]);
            case "made" -> house.made(a[0], a[1], a[2]);
            case "outside" -> house.outside(a[0], a[1], a[2]);
            case "weather" -> house.weather(a[0], a[1]);
            case "holds" -> house.holds(a[0]);
            case "wall" -> house.wall(a[0], a[1], a[2], a[3] == 1);
            case "wallOf" -> house.wallOf(a[0], a[1]);
            case "dry" -> house.dry(a[0]);
            case "clean" -> house.clean(a[0]);
            case "wet" -> house.wet(a[0]);
            case "reading" -> house.reading(a[0], a[1], a[2], a[3]);
            case "cause" -> house.cause(a[0], a[1], a[2], a[3]);
            case "truth" -> house.truth(a[0], a[1] == 1);
            case "hours" -> house.hours(a[0]);
            case "off" -> offOrThrown(house, a[0]);
            case "tale" -> house.tale(a[0], a[1]);
            case "best" -> house.best();
            case "simple" -> house.simple(a[0]);
            case "rivals" -> house.rivals();
            case "look" -> house.look(a[0], a[1]);
            case "answer" -> house.answer(a[0], a[1] == 1);
            case "next" -> house.next();
            case "plan" -> house.plan();
            case "trial" -> house.trial(a[0], a[1], a[2], a[3], a[4]);
            case "trialOf" -> house.trialOf(a[0], a[1]);
            case "flat" -> house.flat(a[0], a[1], a[2], a[3]);
            case "joins" -> house.joins();
            case "chance" -> house.chance(a[0]);
            case "rule" -> house.rule(a[0], a[1], a[2], a[3]);
            case "child" -> house.child(a[0] == 1);
            case "word" -> house.word(a[0] == 1, a[1], a[2] == 1);
            case "due" -> house.due(a[0], a[1]);
            case "quarrel" -> house.quarrel(a[0]);
            case "count" -> house.count(a[0]);
            default -> throw new AssertionError(name);
        };
    }

    private static long offOrThrown(DampHouse house, int set) {
        try {
            return house.off(set);
        } catch (IllegalArgumentException e) {
            return THROWN;
        }
    }
}
