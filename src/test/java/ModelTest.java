import java.lang.reflect.Method;
import java.util.Random;

/** Random runs of calls, each answer judged by the model. The seeds are fixed. */
final class ModelTest {
    private static final int RUNS = 1000;
    /** With the questions for the state behind each, and the sweep, they stay below 512. */
    private static final int CALLS = 90;

    private static final String[] CHEAP = {
        "coordinate", "cellOf", "neighbour", "direction", "cone", "cosine", "isBright",
        "brightCells", "firstBright"};
    private static final String[] ACTIONS = {
        "setAxis", "setDrift", "setCone", "setCone", "step", "step", "step", "step", "slew",
        "slew", "slew", "addRequest", "addRequest", "addRequest", "removeRequest", "undo",
        "undo", "save", "restore"};
    private static final String[] SHUTTER = {"close", "open", "pass", "setCone", "undo"};
    private static final String[] PLANS = {
        "arrival", "planCell", "planCell", "planCell", "reachableCells", "parkingCell",
        "parkingSteps", "requestFinish", "bestValue", "bestOrder", "randomWalk", "randomWalk"};

    private final Random random;
    private final SlewPlanner planner = new SlewPlanner();
    private final Model model = new Model();
    private final Runs runs;
    private final StringBuilder told = new StringBuilder();
    /** One argument of so many is any number. */
    private final int wildness;
    /** True when the two no longer agree: what follows would say nothing new. */
    private boolean lost;

    private ModelTest(long seed, Runs runs) {
        this.random = new Random(seed);
        this.runs = runs;
        this.wildness = seed % 10 == 9 ? 3 : 40;
    }

    public static void main(String[] arguments) {
        Runs runs = new Runs();
        for (int seed = 0; seed < RUNS; seed++) {
            new ModelTest(seed, runs).go("run " + seed);
        }
        runs.end();
    }

    private void go(String title) {
        if (random.nextBoolean()) {
            sweep(title);
        }
        for (int i = 0; i < CALLS; i++) {
            String name = nextName();
            call(title, name, words(name, Runs.method(planner, name).getParameterCount()));
        }
    }

    /** Objects that come over the position some time later, so that it must be left. */
    private void sweep(String title) {
        for (int object = 0; object < 3; object++) {
            int time = 3 + random.nextInt(25);
            String[] axis = {"" + object, "", "", ""};
            String[] drift = {"" + object, "", "", ""};
            for (int i = 0; i < 3; i++) {
                int d = random.nextInt(7) - 3;
                drift[i + 1] = "" + d;
                axis[i + 1] = "" + (model.coordinate(model.position(), i) * 4 - time * d);
            }
            call(title, "setAxis", axis);
            call(title, "setDrift", drift);
            call(title, "setCone", "" + object, "" + (30 + random.nextInt(65)));
        }
    }

    private String nextName() {
        if (random.nextInt(model.isClosed() ? 2 : 40) == 0) {
            return pick(SHUTTER);
        }
        return pick(random.nextInt(10) < 5 ? ACTIONS : random.nextInt(4) == 0 ? CHEAP : PLANS);
    }

    private void call(String title, String name, String... words) {
        if (lost) {
            return;
        }
        String call = name + "(" + String.join(", ", words) + ")";
        String due = Runs.answer(model, Runs.method(model, name), words);
        String got = Runs.answer(planner, Runs.method(planner, name), words);
        runs.same(title + ": " + told + call, due, got);
        told.append(call).append(" = ").append(got).append("; ");
        lost = !due.equals(got);
        for (String state : new String[] {"clock()", "position()", "isClosed()", "requestCount()"}) {
            String is = Runs.answer(planner, state);
            lost = lost || !is.equals(Runs.answer(model, state));
            runs.same(title + ": " + told + state, Runs.answer(model, state), is);
        }
    }

    private String pick(String[] from) {
        return from[random.nextInt(from.length)];
    }

    private String[] words(String name, int count) {
        String[] words = new String[count];
        int scale = random.nextInt(3);
        for (int i = 0; i < count; i++) {
            words[i] = Long.toString(
                    random.nextInt(wildness) == 0 ? wild() : ordinary(name, i, scale));
        }
        return words;
    }

    private long wild() {
        int[] numbers = {-1, 0, 3, 4, 5, 21, 41, 61, 100, 101, 150, 301, -9, 10, -100,
            Integer.MIN_VALUE, Integer.MAX_VALUE};
        return numbers[random.nextInt(numbers.length)];
    }

    private long ordinary(String name, int i, int scale) {
        switch (name) {
            case "coordinate": return i == 0 ? cell() : random.nextInt(3);
            case "cellOf": return random.nextInt(11) - 5;
            case "neighbour": return i == 0 ? cell() : random.nextInt(4);
            case "direction": return i < 2 ? random.nextInt(3) : random.nextInt(301);
            case "cone": return random.nextInt(3);
            case "cosine": return i == 0 ? cell() : i == 1 ? random.nextInt(3) : time();
            case "isBright": return i == 0 ? cell() : time();
            case "firstBright": return i == 0 ? cell() : time();
            case "brightCells": return time();
            case "setAxis":
                int most = scale == 0 ? 3 : scale == 1 ? 20 : 99;
                return i == 0 ? random.nextInt(3) : random.nextInt(2 * most + 1) - most;
            case "setDrift":
                int drift = scale == 0 ? 0 : scale == 1 ? 1 : 9;
                return i == 0 ? random.nextInt(3) : random.nextInt(2 * drift + 1) - drift;
            case "setCone":
                return i == 0 ? random.nextInt(3)
                        : scale == 0 ? random.nextInt(100) : 70 + random.nextInt(30);
            case "step": return near();
            case "slew": return scale == 0 ? cell() : near();
            case "pass": return scale == 0 ? 1 + random.nextInt(100) : 1 + random.nextInt(5);
            case "addRequest":
                return i == 0 ? cell() : i == 1 ? 1 + random.nextInt(20)
                        : 1 + random.nextInt(scale == 0 ? 99 : 3);
            case "removeRequest":
            case "requestFinish":
                return random.nextInt(4);
            case "arrival": return cell();
            case "planCell": return i == 0 ? cell() : random.nextInt(scale == 0 ? 61 : 12);
            case "reachableCells": return random.nextInt(scale == 0 ? 61 : 12);
            case "parkingCell":
            case "parkingSteps":
                return random.nextInt(41);
            case "randomWalk": return i == 0 ? random.nextLong() : 1 + random.nextInt(60);
            default: return random.nextInt(2);
        }
    }

    private int cell() {
        return random.nextInt(150);
    }

    private int time() {
        return random.nextBoolean() ? random.nextInt(301)
                : Math.min(300, model.clock() + random.nextInt(30));
    }

    /** Mostly a cell that a step can reach. */
    private int near() {
        int r = random.nextInt(7);
        return r < 4 ? model.neighbour(model.position(), r) : r < 6 ? model.position() : cell();
    }
}
