/** The sentences of ACTIONS AND UNDO, and of the save slots, that name a boundary case. */
final class UndoEdgesTest {
    public static void main(String[] arguments) {
        Runs runs = new Runs();
        fourteen(runs);
        around(runs);
        equalStates(runs);
        noActions(runs);
        allOfTheState(runs);
        slots(runs);
        slotsAreNotState(runs);
        presentObjects(runs);
        allNumbersOther(runs);
        lastCall(runs);
        runs.end();
    }

    /** So many steps, from the cell 0 to the cell 1 and back, and the answers to them. */
    private static String steps(int from, int until) {
        StringBuilder calls = new StringBuilder();
        for (int clock = from; clock <= until; clock++) {
            calls.append("step(").append(clock % 2).append(") = ").append(clock).append(";");
        }
        return calls.toString();
    }

    /** Takes back until so many states are left; the clock is left plus the difference then. */
    private static String undone(int from, int until, int difference) {
        StringBuilder calls = new StringBuilder();
        for (int left = from; left >= until; left--) {
            int clock = left + difference;
            calls.append("undo() = ").append(left).append("; clock() = ").append(clock);
            calls.append("; position() = ").append(clock % 2).append(";");
        }
        return calls.toString();
    }

    private static void fourteen(Runs runs) {
        String none = "undo() = throws IllegalStateException;";
        runs.run("no action is remembered at first", none + "clock() = 0");
        runs.run("one action is remembered", steps(1, 1), undone(0, 0, 0), none, "clock() = 0");
        runs.run("the last 14 actions: 13", steps(1, 13), undone(12, 0, 0), none, "clock() = 0");
        runs.run("the last 14 actions: 14", steps(1, 14), undone(13, 0, 0), none, "clock() = 0");
        runs.run("a fifteenth: the oldest is forgotten", steps(1, 15), undone(13, 0, 1), none,
                "clock() = 1; position() = 1");
        runs.run("a sixteenth: the two oldest are forgotten", steps(1, 16), undone(13, 0, 2), none,
                "clock() = 2; position() = 0");
        runs.run("many more", steps(1, 43), undone(13, 0, 29), none, "clock() = 29; position() = 1");
    }

    private static void around(Runs runs) {
        String none = "undo() = throws IllegalStateException;";
        runs.run("what was taken back makes room: 15 actions, 5 taken back, 5 more", steps(1, 15),
                undone(13, 9, 1), steps(11, 15), undone(13, 0, 1), none, "clock() = 1");
        runs.run("what was taken back makes room: 15 actions, 5 taken back, 6 more", steps(1, 15),
                undone(13, 9, 1), steps(11, 16), undone(13, 0, 2), none, "clock() = 2");
        runs.run("all taken back, then 15 more", steps(1, 20), undone(13, 0, 6), none, steps(7, 21),
                undone(13, 0, 7), none, "clock() = 7");
        runs.run("taken back is not done again", steps(1, 3), undone(2, 1, 0), "step(0) = 2",
                undone(1, 0, 0), none);
    }

    private static void equalStates(Runs runs) {
        runs.run("an action even if the state stays equal: setAxis", "setAxis(0, 1, 0, 0) = 0; undo() = 0");
        runs.run("an action even if the state stays equal: setDrift",
                "setDrift(0, 0, 0, 0) = 0; undo() = 0");
        runs.run("an action even if the state stays equal: setCone", "setCone(0, 0) = 0; undo() = 0");
        runs.run("an action even if the state stays equal: slew", "slew(0) = 0; undo() = 0");
        runs.run("an action even if the state stays equal: it forgets the oldest too", steps(1, 14),
                "slew(0) = 0; undo() = 13; clock() = 14", undone(12, 0, 1),
                "undo() = throws IllegalStateException; clock() = 1");
        runs.run("each call of them is an action",
                "setAxis(0, 5, 0, 0) = 0; setDrift(0, 0, 1, 0) = 0; setCone(0, 95) = 1; step(1) = 1",
                "slew(0) = 1; close() = 2; open() = 2; close() = 2; pass(3) = 5",
                "addRequest(0, 1, 1) = 0; removeRequest(0) = 0; undo() = 10; undo() = 9");
    }

    private static void noActions(Runs runs) {
        runs.run("a refused call is not an action", steps(1, 14), "open() = throws IllegalStateException",
                "step(99) = throws IllegalArgumentException; slew(150) = throws IndexOutOfBoundsException",
                "setAxis(0, 0, 0, 0) = throws IllegalArgumentException",
                "setCone(0, 100) = throws IllegalArgumentException",
                "pass(1) = throws IllegalStateException",
                "removeRequest(0) = throws IndexOutOfBoundsException", undone(13, 0, 0));
        runs.run("a save is not an action", steps(1, 14), "save(0) = 14; save(1) = 14",
                undone(13, 0, 0), "undo() = throws IllegalStateException");
        runs.run("a question is not an action", steps(1, 14),
                "arrival(149) = 14; planCell(149, 3) = 3; reachableCells(60) = 150",
                "parkingCell(40) = 0; parkingSteps(40) = 0; bestValue() = 0; bestOrder() = 0",
                "randomWalk(1, 60) = 27; brightCells(0) = 0; cosine(0, 0, 0) = -0.6622661785325219",
                undone(13, 0, 0));
        runs.run("undo is not an action", "step(1) = 1; step(0) = 2; undo() = 1; undo() = 0",
                "undo() = throws IllegalStateException; clock() = 0");
        runs.run("restore is not an action, and forgets all",
                "save(0) = 0; step(1) = 1; step(0) = 2; restore(0) = 0",
                "undo() = throws IllegalStateException; step(1) = 1; undo() = 0; clock() = 0");
    }

    private static void allOfTheState(Runs runs) {
        runs.run("the state: the objects", "setAxis(1, 5, 4, 3) = 0; setDrift(1, 1, 2, 3) = 0",
                "setCone(1, 99) = 2; undo() = 2; cone(1) = 0; undo() = 1; direction(1, 2, 1) = 3",
                "undo() = 0; direction(1, 1, 0) = 1; direction(1, 0, 0) = 0");
        runs.run("the state: the clock and the position", "slew(12) = 4; undo() = 0; clock() = 0",
                "position() = 0");
        runs.run("the state: the shutter", "close() = 0; pass(5) = 5; undo() = 1; isClosed() = true",
                "clock() = 0; undo() = 0; isClosed() = false");
        runs.run("the state: the requests", "addRequest(5, 6, 7) = 0; addRequest(1, 2, 3) = 1",
                "removeRequest(0) = 1; undo() = 2; requestFinish(0) = 7; requestFinish(1) = 3",
                "bestValue() = 10; undo() = 1; requestCount() = 1; bestValue() = 7; undo() = 0",
                "requestCount() = 0");
        runs.run("what is bright goes with the state", Scenes.ARRIVING, "brightCells(0) = 1",
                "undo() = 2; brightCells(0) = 0; undo() = 1; undo() = 0; setCone(0, 95) = 1",
                "isBright(137, 0) = true; isBright(137, 300) = true; undo() = 0",
                "isBright(137, 0) = false; firstBright(137, 0) = -9");
    }

    private static void slots(Runs runs) {
        runs.run("36 an empty slot, and the other one too",
                "restore(0) = throws IllegalStateException; restore(1) = throws IllegalStateException",
                "save(1) = 0; restore(0) = throws IllegalStateException; restore(1) = 0; save(0) = 0",
                "restore(0) = 0");
        runs.run("35 a slot that is full is written anew", steps(1, 3),
                "save(0) = 3; step(0) = 4; save(0) = 4; step(1) = 5; restore(0) = 4; position() = 0");
        runs.run("36 the slot keeps its state", "step(1) = 1; save(0) = 1; step(0) = 2; restore(0) = 1",
                "step(0) = 2; setCone(0, 99) = 1; restore(0) = 1; cone(0) = 0; position() = 1",
                "restore(0) = 1; clock() = 1");
        runs.run("36 each slot has its own", "save(0) = 0; step(1) = 1; save(1) = 1; restore(0) = 0",
                "position() = 0; restore(1) = 1; position() = 1; restore(0) = 0; clock() = 0");
        runs.run("36 forgets all remembered states, 14 of them", "save(0) = 0;", steps(1, 20),
                "restore(0) = 0; undo() = throws IllegalStateException; clock() = 0;", steps(1, 15),
                undone(13, 0, 1), "undo() = throws IllegalStateException");
        runs.run("36 with a closed shutter, and to a closed one",
                "save(0) = 0; close() = 0; save(1) = 0; restore(0) = 0; isClosed() = false",
                "restore(1) = 0; isClosed() = true; open() = 0; undo() = 0; isClosed() = true");
    }

    private static void slotsAreNotState(Runs runs) {
        runs.run("the save slots are not part of the state: undo leaves them",
                "step(1) = 1; save(0) = 1; undo() = 0; restore(0) = 1; position() = 1");
        runs.run("the save slots are not part of the state: restore leaves them",
                "save(0) = 0; step(1) = 1; save(1) = 1; restore(0) = 0; restore(1) = 1; clock() = 1");
        runs.run("the save slots are not part of the state: a slot does not come back",
                "save(0) = 0; step(1) = 1; save(1) = 1; save(0) = 1; restore(1) = 1; restore(0) = 1");
        runs.run("35 later actions leave the slot", "addRequest(5, 6, 7) = 0; save(0) = 0",
                "addRequest(1, 1, 1) = 1; removeRequest(0) = 1; setAxis(0, 0, 0, 5) = 0; close() = 0",
                "restore(0) = 0; requestCount() = 1; requestFinish(0) = 7; isClosed() = false",
                "direction(0, 0, 0) = 1; direction(0, 2, 0) = 0");
    }

    /** What each question answers while the object is switched on, and while it is off. */
    private static void presentObjects(Runs runs) {
        String[][] flash = {
            {"isBright(0, 5)", "true", "false"}, {"brightCells(5)", "1", "0"},
            {"firstBright(0, 0)", "5", "-9"}, {"reachableCells(5)", "50", "51"},
            {"parkingSteps(5)", "1", "0"}, {"parkingCell(5)", "1", "0"},
            {"requestFinish(0)", "11", "5"}};
        String[][] leaving = {
            {"arrival(1)", "10", "1"}, {"planCell(1, 1)", "0", "1"}, {"planCell(6, 1)", "5", "1"},
            {"randomWalk(2, 1)", "0", "1"}};
        String requests = "addRequest(0, 5, 5) = 0; addRequest(1, 20, 3) = 1; addRequest(2, 20, 2) = 2;";
        String eight = requests + "addRequest(2, 8, 1) = 3;";
        String twelve = requests + "addRequest(2, 12, 1) = 3;";
        presentObject(runs, Scenes.FLASH + eight, "bestOrder()", "2134", "1234");
        presentObject(runs, Scenes.FLASH + twelve, "bestValue()", "10", "11");
        for (String[] asked : flash) {
            presentObject(runs, Scenes.FLASH + eight, asked[0], asked[1], asked[2]);
        }
        for (String[] asked : leaving) {
            presentObject(runs, Scenes.LEAVING + eight, asked[0], asked[1], asked[2]);
        }
    }

    /** The question comes at once behind the call that changes the objects, or is refused. */
    private static void presentObject(
            Runs runs, String before, String question, String with, String without) {
        String on = question + " = " + with + ";";
        String off = question + " = " + without + ";";
        String title = "the objects of the present state, " + question;
        runs.run(title + ", after an action", before, on, "setCone(0, 0) = 0;", off);
        runs.run(title + ", after an undo", before, "setCone(0, 0) = 0;", off, "undo() = 7;", on);
        runs.run(title + ", after a restore", before, "save(0) = 0; setCone(0, 0) = 0;", off,
                "restore(0) = 0;", on);
        runs.run(title + ", after a refused call", before, on,
                "setAxis(0, -5, -4, -4) = throws IllegalStateException;", on);
    }

    /** Every number of every object is another one in the slot. */
    private static void allNumbersOther(Runs runs) {
        runs.run("36 what is bright goes with the state of the slot",
                "setAxis(0, 5, 1, 1) = 0; setDrift(0, 1, 1, 1) = 0; setCone(0, 93) = 4",
                "setAxis(1, 1, 5, 1) = 4; setDrift(1, 1, 1, 1) = 4; setCone(1, 93) = 8",
                "setAxis(2, 1, 1, 5) = 8; setDrift(2, 1, 1, 1) = 8; setCone(2, 93) = 12",
                "save(0) = 0; brightCells(0) = 12; isBright(137, 0) = true",
                "setAxis(0, 50, -3, -3) = 11; setDrift(0, 0, 0, 0) = 11; setCone(0, 99) = 9",
                "setAxis(1, -3, 50, -3) = 8; setDrift(1, 0, 0, 0) = 8; setCone(1, 99) = 6",
                "setAxis(2, -3, -3, 50) = 5; setDrift(2, 0, 0, 0) = 5; setCone(2, 99) = 3",
                "brightCells(0) = 3; restore(0) = 0; brightCells(0) = 12; isBright(137, 0) = true");
    }

    /** An object is used for at most 512 calls after it has been made. */
    private static void lastCall(Runs runs) {
        SlewPlanner planner = new SlewPlanner();
        for (int i = 0; i < 4; i++) {
            planner.addRequest(30 * i + 11, 9 + i, 5);
        }
        for (int i = 4; i < 506; i += 2) {
            planner.setCone(2, 1 + i % 99);
            planner.bestOrder();
        }
        runs.go("the calls from the 507th to the 512th", planner,
                "clock() = 0; requestCount() = 4; slew(12) = 4; undo() = 13; position() = 0",
                "arrival(12) = 4");
    }
}
