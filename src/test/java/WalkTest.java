/** Promise 34: randomWalk. */
final class WalkTest {
    /** An object that makes its whole half bright: that of the position from the time 6 on. */
    private static final String TURNING =
            "setAxis(0, 5, 5, 5) = 0; setDrift(0, -1, -1, -1) = 0; setCone(0, 1) = 75;";

    public static void main(String[] arguments) {
        Runs runs = new Runs();
        runs.run("34 randomWalk",
                "randomWalk(0, 1) = 25; randomWalk(5, 1) = 25; randomWalk(5, 60) = 7",
                "randomWalk(0, 0) = throws IllegalArgumentException",
                "randomWalk(0, 61) = throws IllegalArgumentException",
                "randomWalk(0, -1) = throws IllegalArgumentException; clock() = 0; position() = 0",
                "undo() = throws IllegalStateException; close() = 0",
                "randomWalk(0, 60) = throws IllegalStateException",
                "randomWalk(0, 61) = throws IllegalArgumentException");
        firstSteps(runs);
        withoutObjects(runs);
        theEnd(runs);
        runs.run("34 the clock of the copy goes on beyond 200",
                "close() = 0; pass(100) = 100; pass(100) = 200; open() = 200",
                "randomWalk(5, 60) = 7; clock() = 200");
        runs.end();
    }

    /** The first step for each of the five numbers, with the cells 1 and 25 bright. */
    private static void firstSteps(Runs runs) {
        long[] seeds = new long[5];
        boolean[] found = new boolean[5];
        for (long seed = 0; seed < 100; seed++) {
            int r = number(next(seed));
            if (!found[r]) {
                found[r] = true;
                seeds[r] = seed;
            }
        }
        String objects = "setAxis(0, -5, -4, -2) = 0; setCone(0, 98) = 1; setAxis(1, -4, -5, -4) = 1;"
                + "setCone(1, 99) = 2; isBright(1, 0) = true; isBright(25, 0) = true;";
        runs.run("34 the first step", "randomWalk(" + seeds[0] + ", 1) = 1",
                "randomWalk(" + seeds[1] + ", 1) = 5; randomWalk(" + seeds[2] + ", 1) = 25",
                "randomWalk(" + seeds[3] + ", 1) = 30; randomWalk(" + seeds[4] + ", 1) = 0");
        runs.run("34 the first step, if some are bright", objects,
                "randomWalk(" + seeds[0] + ", 1) = 0; randomWalk(" + seeds[1] + ", 1) = 5",
                "randomWalk(" + seeds[2] + ", 1) = 0; randomWalk(" + seeds[3] + ", 1) = 30",
                "randomWalk(" + seeds[4] + ", 1) = 0");
    }

    private static void withoutObjects(Runs runs) {
        long[] seeds = {0, 1, -1, 77, 5, Long.MIN_VALUE, Long.MAX_VALUE, 6364136223846793005L};
        for (long seed : seeds) {
            SlewPlanner planner = new SlewPlanner();
            long x = seed;
            int cell = 0;
            for (int m = 1; m <= 60; m++) {
                x = next(x);
                int r = number(x);
                cell = r < 4 ? planner.neighbour(cell, r) : cell;
                runs.same("34 randomWalk(" + seed + ", " + m + ")", cell, planner.randomWalk(seed, m));
            }
        }
    }

    /** Where all is bright from the time 6 on, a walk ends after five steps. */
    private static void theEnd(Runs runs) {
        SlewPlanner planner = new SlewPlanner();
        runs.go("34 before the walks that end", planner, TURNING);
        for (long seed = 0; seed < 50; seed++) {
            int five = planner.randomWalk(seed, 5);
            runs.same("34 a walk that ends, seed " + seed, five, planner.randomWalk(seed, 6));
            runs.same("34 a walk that ends, seed " + seed, five, planner.randomWalk(seed, 60));
        }
    }

    private static long next(long x) {
        return x * 6364136223846793005L + 1442695040888963407L;
    }

    private static int number(long x) {
        return (int) (x >>> 33) % 5;
    }
}
