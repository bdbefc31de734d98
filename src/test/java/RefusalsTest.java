/**
 * Each call that is refused for another reason than a range: which exception it throws, that it
 * changed nothing, and that the call next to it, which is just possible, is made.
 */
final class RefusalsTest {
    private static final String INDEX = "IndexOutOfBoundsException";
    private static final String ARGUMENT = "IllegalArgumentException";
    private static final String STATE = "IllegalStateException";

    public static void main(String[] arguments) {
        Runs runs = new Runs();
        axisOfNoLength(runs);
        brightPosition(runs);
        step(runs);
        slew(runs);
        shutter(runs);
        pass(runs);
        addRequest(runs);
        undo(runs);
        closedPlans(runs);
        restore(runs);
        firstNamed(runs);
        runs.end();
    }

    private static void axisOfNoLength(Runs runs) {
        runs.refused("15 an axis is not all 0", Scenes.NEW, "setAxis(0, 0, 0, 0)", ARGUMENT);
        runs.refused("15 an axis is not all 0", Scenes.BUSY, "setAxis(1, 0, 0, 0)", ARGUMENT);
        runs.refused("15 an axis is not all 0, closed", Scenes.SHUT, "setAxis(2, 0, 0, 0)", ARGUMENT);
        runs.run("15 two of the three may be 0",
                "setAxis(0, 0, 0, 1) = 0; setAxis(0, 0, -1, 0) = 0; setAxis(0, 1, 0, 0) = 0",
                "setAxis(0, -1, 0, 0) = 0; setAxis(0, 0, 1, 0) = 0; setAxis(0, 0, 0, -1) = 0");
        runs.run("16 a drift may be all 0", Scenes.BUSY, "setDrift(0, 0, 0, 0) = 22");
    }

    private static void brightPosition(Runs runs) {
        String axis = "setAxis(0, -5, -4, -4) = 0;";
        runs.refused("17 the position would be bright", axis, "setCone(0, 99)", STATE);
        runs.refused("17 the position would be bright", axis, "setCone(0, 1)", STATE);
        runs.run("17 with the shutter closed it may be", axis, "close() = 0; setCone(0, 99) = 1");
        String cone = "setAxis(0, 5, 4, 4) = 0; setCone(0, 99) = 1; step(0) = 1;";
        runs.refused("15 the position would be bright", cone, "setAxis(0, -5, -4, -4)", STATE);
        runs.run("15 with the shutter closed it may be", cone, "close() = 1",
                "setAxis(0, -5, -4, -4) = 1; isBright(0, 1) = true");
        runs.refused("16 the position would be bright", cone, "setDrift(0, -9, -7, -7)", STATE);
        runs.run("16 with the shutter closed it may be", cone, "close() = 1",
                "setDrift(0, -9, -7, -7) = 1; isBright(0, 1) = true; isBright(0, 0) = false");
        runs.refused("15 among other states", Scenes.BUSY, "setAxis(1, -6, -8, 12)", STATE);
        runs.refused("16 among other states", Scenes.BUSY, "setDrift(0, 0, -6, -4)", STATE);
        runs.refused("17 among other states", Scenes.BUSY, "setCone(0, 35)", STATE);
        runs.run("17 among other states", Scenes.BUSY, "setCone(0, 36) = 58");
    }

    private static void step(Runs runs) {
        // 6 stands 8 away (squared) from the cell 0; 26 and 32 stand 6 away, over an edge.
        for (String cell : new String[] {"6", "26", "32", "149", "31", "24"}) {
            runs.refused("18 not a neighbour", Scenes.NEW, "step(" + cell + ")", ARGUMENT);
        }
        runs.refused("18 not a neighbour", Scenes.BUSY, "step(2)", ARGUMENT);
        runs.refused("18 not a neighbour, closed", Scenes.SHUT, "step(2)", ARGUMENT);
        runs.refused("18 not a neighbour, at the clock 200", Scenes.LATE, "step(3)", ARGUMENT);
        runs.refused("18 closed", Scenes.SHUT, "step(8)", STATE);
        runs.refused("18 closed", Scenes.SHUT, "step(13)", STATE);
        runs.refused("18 the clock is 200", Scenes.LATE, "step(1)", STATE);
        runs.refused("18 the clock is 200", Scenes.LATE, "step(6)", STATE);
        String before = Scenes.FLASH + "step(0) = 1; step(0) = 2; step(0) = 3; step(0) = 4;";
        runs.refused("18 bright then", before, "step(0)", STATE);
        runs.refused("18 bright then", Scenes.LEAVING, "step(1)", STATE);
        runs.run("18 dark then", before, "step(1) = 5; step(0) = 6");
    }

    private static void slew(Runs runs) {
        runs.refused("19 closed", Scenes.SHUT, "slew(12)", STATE);
        runs.refused("19 closed, to the position", Scenes.SHUT, "slew(8)", STATE);
        runs.refused("19 there is no plan", Scenes.NIGHTFALL, "slew(24)", STATE);
        runs.refused("19 the clock would be 201", Scenes.LATE, "slew(0)", STATE);
        runs.refused("19 the clock would be 214", Scenes.LATE, "slew(149)", STATE);
        runs.run("19 no step is possible at the clock 200", Scenes.LATE,
                "slew(1) = 0; clock() = 200; undo() = 7");
        String before = "close() = 0; pass(100) = 100; pass(96) = 196; open() = 196;";
        runs.refused("19 the clock would be 201", before, "slew(13)", STATE);
        runs.run("19 the clock may be 200 then", before, "slew(12) = 4; clock() = 200");
    }

    private static void shutter(Runs runs) {
        runs.refused("20 it is closed", Scenes.SHUT, "close()", STATE);
        runs.refused("20 it is closed", "close() = 0;", "close()", STATE);
        runs.refused("21 it is open", Scenes.NEW, "open()", STATE);
        runs.refused("21 it is open", Scenes.BUSY, "open()", STATE);
        runs.refused("21 it is open, at the clock 200", Scenes.LATE, "open()", STATE);
        String before = Scenes.FLASH + "close() = 0; pass(5) = 5;";
        runs.refused("21 the position is bright", before, "open()", STATE);
        runs.run("21 it is dark then", before, "pass(1) = 6; open() = 6");
    }

    private static void pass(Runs runs) {
        runs.refused("22 it is open", Scenes.BUSY, "pass(1)", STATE);
        runs.refused("22 it is open, at the clock 200", Scenes.LATE, "pass(1)", STATE);
        runs.refused("22 the clock would be 201", Scenes.LATE_SHUT, "pass(1)", STATE);
        runs.refused("22 the clock would be 300", Scenes.LATE_SHUT, "pass(100)", STATE);
        String before = "close() = 0; pass(100) = 100; pass(1) = 101;";
        runs.refused("22 the clock would be 201", before, "pass(100)", STATE);
        runs.run("22 the clock may be 200 then", before, "pass(99) = 200");
    }

    private static void addRequest(Runs runs) {
        runs.refused("23 there are 4 requests", Scenes.FULL, "addRequest(0, 1, 1)", STATE);
        runs.refused("23 there are 4 requests, closed", Scenes.FULL + "close() = 0;",
                "addRequest(149, 20, 99)", STATE);
        runs.run("23 with one less there are not", Scenes.FULL,
                "removeRequest(3) = 3; addRequest(0, 1, 1) = 3; undo() = 5; undo() = 4",
                "undo() = 3; addRequest(0, 1, 1) = 3");
        runs.refused("23 four again", Scenes.FULL + "removeRequest(0) = 3; addRequest(1, 1, 1) = 3;",
                "addRequest(0, 1, 1)", STATE);
    }

    private static void undo(Runs runs) {
        runs.refused("25 a new object remembers none", Scenes.NEW, "undo()", STATE);
        runs.refused("25 after the last one", "step(1) = 1; undo() = 0;", "undo()", STATE);
        runs.refused("25 after a restore", Scenes.BUSY + "restore(1) = 3;", "undo()", STATE);
        runs.refused("25 a refused call is not remembered", "save(1) = 0;", "undo()", STATE);
    }

    private static void closedPlans(Runs runs) {
        String[] plans = {
            "arrival(8)", "arrival(12)", "planCell(8, 0)", "planCell(12, 60)", "reachableCells(0)",
            "reachableCells(60)", "parkingCell(0)", "parkingCell(40)", "parkingSteps(0)",
            "parkingSteps(40)", "requestFinish(0)", "requestFinish(1)", "bestValue()",
            "bestOrder()", "randomWalk(0, 1)", "randomWalk(-1, 60)"};
        for (String call : plans) {
            runs.refused("26 to 34 closed", Scenes.SHUT, call, STATE);
            runs.refused("26 to 34 closed, at the clock 200", Scenes.LATE_SHUT, call, STATE);
        }
        runs.refused("32 closed and no requests", "close() = 0;", "bestValue()", STATE);
        runs.refused("33 closed and no requests", "close() = 0;", "bestOrder()", STATE);
    }

    private static void restore(Runs runs) {
        runs.refused("36 the slot is empty", Scenes.NEW, "restore(0)", STATE);
        runs.refused("36 the slot is empty", Scenes.NEW, "restore(1)", STATE);
        runs.refused("36 the other slot is empty", "step(1) = 1; save(0) = 1; step(1) = 2;",
                "restore(1)", STATE);
        runs.refused("36 the other slot is empty", "step(1) = 1; save(1) = 1; close() = 1;",
                "restore(0)", STATE);
    }

    /** If several exceptions apply to a call, the one that its description names first is thrown. */
    private static void firstNamed(Runs runs) {
        String[] index = {
            "coordinate(150, 3)", "neighbour(150, 4)", "direction(3, 3, 301)", "direction(0, 3, 301)",
            "cosine(150, 3, 301)", "cosine(0, 3, -1)", "isBright(-1, 301)", "firstBright(-1, -1)",
            "setAxis(3, 0, 0, 0)", "setAxis(-1, 100, 0, 0)", "setDrift(3, 10, 0, 0)",
            "setCone(3, 100)", "step(150)", "slew(150)", "addRequest(150, 0, 100)", "arrival(150)",
            "planCell(150, 61)", "requestFinish(2)"};
        String[] argument = {
            "setAxis(0, -5, -3, 100)", "setDrift(0, -10, -7, -7)", "setCone(0, 100)", "pass(0)",
            "pass(101)", "planCell(0, 61)", "reachableCells(61)", "parkingCell(41)",
            "parkingSteps(-1)", "randomWalk(0, 0)", "randomWalk(0, 61)", "step(2)"};
        for (String before : new String[] {Scenes.BUSY, Scenes.SHUT, Scenes.LATE_SHUT}) {
            for (String call : index) {
                runs.refused("the index is named first", before, call, INDEX);
            }
        }
        for (String before : new String[] {Scenes.BUSY, Scenes.SHUT}) {
            for (String call : argument) {
                runs.refused("the argument is named before the state", before, call, ARGUMENT);
            }
        }
        runs.refused("the index is named first", Scenes.FULL, "addRequest(-1, 1, 1)", INDEX);
        runs.refused("the argument is named before the four requests", Scenes.FULL,
                "addRequest(0, 21, 1)", ARGUMENT);
        runs.refused("the argument is named before the four requests", Scenes.FULL,
                "addRequest(0, 1, 0)", ARGUMENT);
    }
}
