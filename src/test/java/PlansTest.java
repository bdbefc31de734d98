/** Promises 26 to 30: arrival, planCell, reachableCells, parkingCell, parkingSteps. */
final class PlansTest {
    /** An object that crosses the face of the position, between it and the cell 12. */
    private static final String CROSSING =
            "setAxis(0, -50, 40, 0) = 0; setDrift(0, 0, -4, 0) = 0; setCone(0, 90) = 7;";
    /** An object that comes over the position at the time 8. */
    private static final String COMING =
            "setAxis(0, -5, 20, 20) = 0; setDrift(0, 0, -3, -3) = 0; setCone(0, 90) = 10;";
    /** An object that makes its whole half bright: that of the position from the time 6 on. */
    private static final String TURNING =
            "setAxis(0, 5, 5, 5) = 0; setDrift(0, -1, -1, -1) = 0; setCone(0, 1) = 75;";

    public static void main(String[] arguments) {
        Runs runs = new Runs();
        arrival(runs);
        planCell(runs);
        reachableCells(runs);
        parking(runs);
        clockNotLimited(runs);
        plansChangeNothing(runs);
        shut(runs);
        runs.end();
    }

    private static void arrival(Runs runs) {
        runs.run("26 arrival",
                "arrival(0) = 0; arrival(1) = 1; arrival(30) = 1; arrival(12) = 4; arrival(149) = 14",
                "arrival(24) = 8; slew(24) = 8; arrival(0) = 8; arrival(24) = 0",
                "arrival(150) = throws IndexOutOfBoundsException",
                "arrival(-1) = throws IndexOutOfBoundsException");
        runs.run("26 arrival with waiting", CROSSING, "arrival(12) = 17; arrival(22) = 8");
        runs.run("26 no plan", TURNING, "arrival(0) = 0; arrival(24) = -9; arrival(149) = -9");
        runs.run("26 a plan has at most 60 steps",
                // The cell 12 alone is bright, first until the time 59, then until 60.
                "setAxis(0, -60, 0, 0) = 0; setDrift(0, 1, 0, 0) = 0; setCone(0, 95) = 1",
                "arrival(12) = 60; planCell(12, 60) = 12; setAxis(0, -61, 0, 0) = 1",
                "arrival(12) = -9; planCell(12, 60) = -9; step(0) = 1; arrival(12) = 60",
                "planCell(12, 60) = 12; planCell(12, 59) = 7; planCell(12, 56) = 0");
    }

    private static void planCell(Runs runs) {
        runs.run("27 planCell",
                "planCell(12, 0) = 0; planCell(12, 1) = 1; planCell(12, 2) = 2; planCell(12, 3) = 7",
                "planCell(12, 4) = 12; planCell(12, 5) = -9; planCell(12, 60) = -9",
                "planCell(0, 0) = 0; planCell(0, 1) = -9; planCell(149, 0) = 0; planCell(149, 5) = 9",
                "planCell(149, 14) = 149; planCell(149, 15) = -9; slew(12) = 4",
                "planCell(0, 0) = 12; planCell(0, 1) = 7; planCell(0, 2) = 2; planCell(0, 3) = 1",
                "planCell(0, 4) = 0; planCell(150, 0) = throws IndexOutOfBoundsException",
                "planCell(-1, 61) = throws IndexOutOfBoundsException",
                "planCell(0, 61) = throws IllegalArgumentException",
                "planCell(0, -1) = throws IllegalArgumentException");
        runs.run("27 the waiting comes first, as 0 is the smallest number", CROSSING,
                "planCell(12, 11) = 0; planCell(12, 12) = 0; planCell(12, 17) = 12");
        runs.run("27 a detour",
                "setAxis(0, -5, -3, -1) = 0; setCone(0, 97) = 4; isBright(6, 0) = true",
                "isBright(1, 0) = true; isBright(5, 0) = false; arrival(12) = 4; planCell(12, 1) = 5",
                "planCell(12, 2) = 10; planCell(12, 3) = 11; planCell(12, 4) = 12");
        runs.run("27 no plan", TURNING, "planCell(24, 0) = -9; planCell(24, 8) = -9; planCell(0, 0) = 0");
    }

    private static void reachableCells(Runs runs) {
        runs.run("28 reachableCells",
                "reachableCells(0) = 1; reachableCells(1) = 5; reachableCells(2) = 12",
                "reachableCells(3) = 22; reachableCells(12) = 145; reachableCells(13) = 149",
                "reachableCells(14) = 150; reachableCells(60) = 150",
                "reachableCells(-1) = throws IllegalArgumentException",
                "reachableCells(61) = throws IllegalArgumentException");
        runs.run("28 exactly k steps", TURNING,
                "reachableCells(4) = 35; reachableCells(5) = 51; reachableCells(6) = 0",
                "reachableCells(60) = 0");
    }

    private static void parking(Runs runs) {
        runs.run("29 and 30 parking",
                "parkingCell(0) = 0; parkingSteps(0) = 0; parkingCell(40) = 0; parkingSteps(40) = 0",
                "slew(24) = 8; parkingCell(40) = 24; parkingSteps(40) = 0",
                "parkingCell(41) = throws IllegalArgumentException",
                "parkingCell(-1) = throws IllegalArgumentException",
                "parkingSteps(41) = throws IllegalArgumentException",
                "parkingSteps(-1) = throws IllegalArgumentException");
        runs.run("29 and 30 the position is bright at the time 8", COMING,
                "firstBright(0, 0) = 8; parkingCell(7) = 0; parkingSteps(7) = 0; parkingCell(8) = 2",
                "parkingSteps(8) = 2; parkingCell(40) = 2; parkingSteps(40) = 2; step(0) = 1",
                "parkingSteps(6) = 0; parkingSteps(7) = 2; parkingCell(7) = 2");
        // The half that is bright changes at the time 30 for one object, and at 60 for the other.
        runs.run("29 and 30 a parking cell after 60 steps",
                "setAxis(0, 30, 30, 30) = 0; setDrift(0, -1, -1, -1) = 0; setCone(0, 1) = 75",
                "setAxis(1, 60, 60, -60) = 75; setDrift(1, -1, -1, 1) = 75; setCone(1, 1) = 106",
                "parkingSteps(30) = 0; parkingSteps(31) = 60; parkingSteps(40) = 60",
                "parkingCell(30) = 0; parkingCell(31) = 42; parkingCell(40) = 42",
                "setAxis(1, 61, 61, -61) = 106; parkingSteps(40) = -9; parkingCell(40) = -9",
                "step(0) = 1; parkingSteps(40) = 60");
        runs.run("29 and 30 no parking cell", TURNING,
                "parkingCell(5) = 0; parkingSteps(5) = 0; parkingCell(6) = -9; parkingSteps(6) = -9");
    }

    private static void clockNotLimited(Runs runs) {
        runs.run("26 to 34 plans go on beyond the clock 200",
                "close() = 0; pass(100) = 100; pass(100) = 200; open() = 200; arrival(149) = 14",
                "planCell(149, 14) = 149; reachableCells(60) = 150; parkingSteps(40) = 0",
                "addRequest(149, 20, 5) = 0; requestFinish(0) = 234; bestValue() = 5",
                "bestOrder() = 1; randomWalk(77, 60) = 9; slew(1) = throws IllegalStateException");
        runs.run("29 times as far as 300 count",
                // Bright from the time 300 on, and nowhere near it before.
                "setAxis(0, 75, 0, 0) = 0; setDrift(0, 0, 1, 0) = 0; setCone(0, 97) = 1; close() = 0",
                "pass(100) = 100; pass(100) = 200; open() = 200; slew(0) = 0; arrival(82) = 9",
                "firstBright(82, 200) = 300; parkingCell(40) = 0");
    }

    private static void plansChangeNothing(Runs runs) {
        runs.run("26 to 34 change nothing",
                "addRequest(2, 2, 2) = 0; arrival(149) = 14; clock() = 0; position() = 0",
                "planCell(149, 14) = 149; position() = 0; parkingCell(3) = 0; bestOrder() = 1",
                "randomWalk(5, 60) = 7; clock() = 0; position() = 0; requestCount() = 1");
    }

    private static void shut(Runs runs) {
        runs.run("26 to 34 with a closed shutter",
                "addRequest(2, 2, 2) = 0; close() = 0; arrival(0) = throws IllegalStateException",
                "arrival(150) = throws IndexOutOfBoundsException",
                "planCell(0, 0) = throws IllegalStateException",
                "planCell(0, 61) = throws IllegalArgumentException",
                "planCell(150, 61) = throws IndexOutOfBoundsException",
                "reachableCells(0) = throws IllegalStateException",
                "reachableCells(61) = throws IllegalArgumentException",
                "parkingCell(0) = throws IllegalStateException",
                "parkingCell(41) = throws IllegalArgumentException",
                "parkingSteps(0) = throws IllegalStateException",
                "parkingSteps(-1) = throws IllegalArgumentException",
                "requestFinish(0) = throws IllegalStateException",
                "requestFinish(1) = throws IndexOutOfBoundsException",
                "bestValue() = throws IllegalStateException",
                "bestOrder() = throws IllegalStateException",
                "randomWalk(1, 1) = throws IllegalStateException",
                "randomWalk(1, 0) = throws IllegalArgumentException",
                "open() = 0; arrival(0) = 0; bestOrder() = 1");
    }
}
