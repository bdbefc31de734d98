/** The sentences of the section THE TELESCOPE that name a boundary case, a test each. */
final class TelescopeEdgesTest {
    private static final String TO_199 = "close() = 0; pass(100) = 100; pass(99) = 199; open() = 199;";

    public static void main(String[] arguments) {
        Runs runs = new Runs();
        atFirst(runs);
        lastClock(runs);
        stepping(runs);
        darkThen(runs);
        darkNow(runs);
        closed(runs);
        runs.end();
    }

    private static void atFirst(Runs runs) {
        runs.run("the clock is 0, the position 0 and the shutter open at first",
                "clock() = 0; position() = 0; isClosed() = false; requestCount() = 0",
                "open() = throws IllegalStateException; step(0) = 1");
        runs.run("14 the number of requests, from none to 4",
                "requestCount() = 0; addRequest(0, 1, 1) = 0; requestCount() = 1",
                "addRequest(0, 1, 1) = 1; addRequest(0, 1, 1) = 2; requestCount() = 3",
                "addRequest(0, 1, 1) = 3; requestCount() = 4",
                "addRequest(0, 1, 1) = throws IllegalStateException; requestCount() = 4");
    }

    private static void lastClock(Runs runs) {
        runs.run("the clock from 0 to 200: the last step ends at 200", TO_199,
                "step(0) = 200; clock() = 200; step(0) = throws IllegalStateException",
                "step(1) = throws IllegalStateException; clock() = 200; position() = 0");
        runs.run("the clock from 0 to 200: the last slew ends at 200", TO_199,
                "slew(2) = throws IllegalStateException; clock() = 199; slew(1) = 1; clock() = 200",
                "position() = 1; slew(0) = throws IllegalStateException; position() = 1",
                "slew(1) = 0; clock() = 200");
        runs.run("the clock from 0 to 200: time passes until 200",
                "close() = 0; pass(100) = 100; pass(100) = 200; clock() = 200",
                "pass(1) = throws IllegalStateException; pass(100) = throws IllegalStateException",
                "clock() = 200; undo() = 2; clock() = 100; pass(99) = 199",
                "pass(2) = throws IllegalStateException; pass(1) = 200");
        runs.run("at the clock 200 all is possible that takes no time", TO_199,
                "step(0) = 200; setAxis(0, 5, 0, 0) = 0; setCone(0, 95) = 1; setDrift(0, 1, 0, 0) = 1",
                "addRequest(0, 1, 1) = 0; requestFinish(0) = 201; removeRequest(0) = 0",
                "close() = 200; open() = 200; save(0) = 200; restore(0) = 200; clock() = 200");
        runs.run("22 at least 1 and at most 100 units of time pass",
                "close() = 0; pass(0) = throws IllegalArgumentException; pass(1) = 1",
                "pass(100) = 101; pass(101) = throws IllegalArgumentException; clock() = 101",
                "pass(-1) = throws IllegalArgumentException; pass(99) = 200");
    }

    private static void stepping(Runs runs) {
        runs.run("a step goes to a neighbour, to each of the four",
                "step(1) = 1; step(0) = 2; step(5) = 3; step(0) = 4; step(25) = 5; step(0) = 6",
                "step(30) = 7; step(0) = 8; step(12) = throws IllegalArgumentException");
        runs.run("a step stays", "step(0) = 1; position() = 0; step(0) = 2; clock() = 2");
        runs.run("a step takes one unit of time, a slew as many as it has steps",
                "step(1) = 1; clock() = 1; slew(1) = 0; clock() = 1; slew(0) = 1; clock() = 2",
                "slew(24) = 8; clock() = 10");
        runs.run("only if the shutter is open",
                "close() = 0; step(1) = throws IllegalStateException",
                "step(0) = throws IllegalStateException; open() = 0; step(1) = 1");
    }

    private static void darkThen(Runs runs) {
        // The cell 0 is bright at the time 5 alone.
        String four = Scenes.FLASH + "step(0) = 1; step(0) = 2; step(0) = 3; step(0) = 4;";
        runs.run("dark at the clock plus 1: not bright then, if one stays", four,
                "isBright(0, 4) = false; isBright(0, 5) = true; isBright(0, 6) = false",
                "step(0) = throws IllegalStateException; clock() = 4; step(25) = 5");
        runs.run("dark at the clock plus 1: not bright then, if one comes", Scenes.FLASH,
                "slew(1) = 1; step(1) = 2; step(1) = 3; step(1) = 4",
                "step(0) = throws IllegalStateException; position() = 1; step(1) = 5; step(0) = 6");
        runs.run("dark at the clock plus 1: the cell may be bright at the clock", Scenes.FLASH,
                "slew(1) = 1; step(1) = 2; step(1) = 3; step(1) = 4; step(1) = 5",
                "isBright(0, 5) = true; step(0) = 6; position() = 0");
        runs.run("dark at the clock plus 1: the last bright time and the first dark one", Scenes.LEAVING,
                "step(0) = 1; step(0) = 2; step(0) = 3; step(0) = 4; step(0) = 5",
                "step(0) = 6; step(0) = 7; step(0) = 8; step(1) = throws IllegalStateException",
                "isBright(1, 9) = true; step(0) = 9; isBright(1, 10) = false; step(1) = 10");
    }

    private static void darkNow(Runs runs) {
        String four = "step(0) = 1; step(0) = 2; step(0) = 3; step(0) = 4;";
        runs.run("the position is dark at the time of the clock: setCone",
                "setAxis(0, -50, 5, -85) = 0; setDrift(0, 0, -9, 9) = 0", four,
                "setCone(0, 99) = 0; undo() = 6; step(0) = 5",
                "setCone(0, 99) = throws IllegalStateException; cone(0) = 0; step(0) = 6",
                "setCone(0, 99) = 0; isBright(0, 5) = true");
        runs.run("the position is dark at the time of the clock: setAxis",
                "setAxis(0, 50, 40, 40) = 0; setDrift(0, 0, -9, 9) = 0; setCone(0, 99) = 1", four,
                "setAxis(0, -50, 5, -85) = 0; undo() = 7; step(0) = 5",
                "setAxis(0, -50, 5, -85) = throws IllegalStateException; direction(0, 0, 0) = 50",
                "step(0) = 6; setAxis(0, -50, 5, -85) = 0; isBright(0, 5) = true");
        runs.run("the position is dark at the time of the clock: setDrift",
                "setAxis(0, -50, 5, -85) = 0; setCone(0, 99) = 0", four,
                "setDrift(0, 0, -9, 9) = 0; undo() = 6; step(0) = 5",
                "setDrift(0, 0, -9, 9) = throws IllegalStateException; direction(0, 1, 1) = 5",
                "step(0) = 6; setDrift(0, 0, -9, 9) = 0; isBright(0, 5) = true");
        runs.run("the position, not another cell",
                "setAxis(0, -5, -4, -2) = 0; setCone(0, 99) = 1; isBright(1, 0) = true",
                "step(1) = throws IllegalStateException; step(5) = 1");
    }

    private static void closed(Runs runs) {
        runs.run("while the shutter is closed, the telescope keeps its position",
                "step(1) = 1; close() = 1; pass(50) = 51; position() = 1; open() = 51; position() = 1");
        runs.run("while the shutter is closed, the position may be bright", Scenes.FLASH,
                "close() = 0; pass(5) = 5; isBright(0, 5) = true; position() = 0",
                "pass(1) = 6; open() = 6");
        runs.run("21 dark at the time of the clock: the times 4, 5 and 6", Scenes.FLASH,
                "close() = 0; pass(4) = 4; open() = 4; close() = 4; pass(1) = 5",
                "open() = throws IllegalStateException; isClosed() = true; pass(1) = 6; open() = 6",
                "isClosed() = false");
        runs.run("while the shutter is closed, the objects may be set onto the position",
                "close() = 0; setAxis(0, -5, -4, -4) = 0; setCone(0, 99) = 1",
                "open() = throws IllegalStateException; setDrift(0, 0, 0, 0) = 1",
                "setAxis(0, 5, 4, 4) = 1; open() = 0");
        runs.run("20 and 21 take no time", "close() = 0; open() = 0; close() = 0; clock() = 0",
                "pass(1) = 1; open() = 1; clock() = 1");
        runs.run("23 and 24 are possible while the shutter is closed",
                "close() = 0; addRequest(0, 1, 1) = 0; removeRequest(0) = 0; undo() = 2");
    }
}
