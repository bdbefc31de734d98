/** Promises 11 to 25: the state, the actions and undo. */
final class ActionsTest {
    public static void main(String[] arguments) {
        Runs runs = new Runs();
        state(runs);
        setAxis(runs);
        setDrift(runs);
        setCone(runs);
        brightPosition(runs);
        step(runs);
        slew(runs);
        shutter(runs);
        pass(runs);
        requests(runs);
        undo(runs);
        everyActionIsRemembered(runs);
        runs.end();
    }

    private static void state(Runs runs) {
        runs.run("11 to 14 the state",
                "step(5) = 1; clock() = 1; position() = 5; step(5) = 2; clock() = 2",
                "position() = 5; slew(0) = 1; clock() = 3; position() = 0; isClosed() = false",
                "close() = 3; isClosed() = true; pass(7) = 10; clock() = 10; position() = 0",
                "open() = 10; isClosed() = false; requestCount() = 0; addRequest(1, 1, 1) = 0",
                "requestCount() = 1; addRequest(2, 1, 1) = 1; requestCount() = 2",
                "removeRequest(0) = 1; requestCount() = 1; undo() = 8; requestCount() = 2");
    }

    private static void setAxis(Runs runs) {
        runs.run("15 setAxis",
                "setAxis(0, -5, 0, 0) = 0; setCone(0, 90) = 5; setAxis(0, 5, 4, 4) = 10",
                "setAxis(0, 99, 99, -99) = 12; direction(0, 0, 0) = 99; direction(0, 2, 0) = -99",
                "setAxis(1, 0, 0, -99) = 12; direction(1, 1, 5) = 0; setAxis(2, -99, -99, 99) = 12",
                "setAxis(3, 1, 1, 1) = throws IndexOutOfBoundsException",
                "setAxis(-1, 1, 1, 1) = throws IndexOutOfBoundsException",
                "setAxis(0, 100, 0, 0) = throws IllegalArgumentException",
                "setAxis(0, 0, -100, 0) = throws IllegalArgumentException",
                "setAxis(0, 0, 1, 100) = throws IllegalArgumentException",
                "setAxis(0, -2147483648, 0, 0) = throws IllegalArgumentException",
                "setAxis(0, 0, 0, 0) = throws IllegalArgumentException",
                "setAxis(3, 0, 0, 0) = throws IndexOutOfBoundsException",
                "direction(0, 0, 0) = 99; brightCells(0) = 12; undo() = 5");
        runs.run("15 setAxis, the time of the clock",
                "setDrift(0, -1, -1, -1) = 0; setAxis(0, 5, 5, 5) = 0; setCone(0, 1) = 75",
                "step(0) = 1; step(0) = 2; setAxis(0, 2, 2, 2) = 0; setAxis(0, 3, 3, 3) = 75",
                "setAxis(0, 1, 1, 1) = throws IllegalStateException; direction(0, 0, 0) = 3");
    }

    private static void setDrift(Runs runs) {
        runs.run("16 setDrift",
                "setDrift(0, 9, -9, 9) = 0; direction(0, 0, 2) = 19; direction(0, 1, 2) = -18",
                "setDrift(0, 0, 0, 0) = 0; direction(0, 0, 300) = 1; undo() = 1",
                "direction(0, 0, 2) = 19; setAxis(0, 5, 4, 4) = 0; direction(0, 0, 1) = 14",
                "setDrift(3, 0, 0, 0) = throws IndexOutOfBoundsException",
                "setDrift(-1, 0, 0, 0) = throws IndexOutOfBoundsException",
                "setDrift(0, 10, 0, 0) = throws IllegalArgumentException",
                "setDrift(0, 0, -10, 0) = throws IllegalArgumentException",
                "setDrift(0, 0, 0, 10) = throws IllegalArgumentException",
                "setDrift(3, 10, 0, 0) = throws IndexOutOfBoundsException; undo() = 1");
        runs.run("16 setDrift, the time of the clock",
                "setAxis(0, 1, 1, 1) = 0; setCone(0, 1) = 75; setDrift(0, -9, -9, -9) = 75; undo() = 2",
                "step(0) = 1; setDrift(0, -1, -1, -1) = 0; setDrift(0, 1, 1, 1) = 75",
                "setDrift(0, -2, -2, -2) = throws IllegalStateException; direction(0, 0, 1) = 2");
    }

    private static void setCone(Runs runs) {
        runs.run("17 setCone",
                "setAxis(2, 5, 0, 0) = 0; setCone(2, 99) = 1; setCone(2, 90) = 5",
                "setCone(2, 1) = 65; cone(2) = 1; setCone(2, 0) = 0; cone(2) = 0; undo() = 4",
                "cone(2) = 1; brightCells(0) = 65",
                "setCone(3, 1) = throws IndexOutOfBoundsException",
                "setCone(-1, 1) = throws IndexOutOfBoundsException",
                "setCone(0, 100) = throws IllegalArgumentException",
                "setCone(0, -1) = throws IllegalArgumentException",
                "setCone(3, 100) = throws IndexOutOfBoundsException; undo() = 3");
    }

    private static void brightPosition(Runs runs) {
        runs.run("15 to 17 the position must stay dark while the shutter is open",
                "setAxis(0, -5, -4, -4) = 0; setCone(0, 99) = throws IllegalStateException",
                "cone(0) = 0; brightCells(0) = 0; undo() = 0; undo() = throws IllegalStateException",
                "setAxis(0, 5, 4, 4) = 0; setCone(0, 99) = 1",
                "setAxis(0, -5, -4, -4) = throws IllegalStateException; direction(0, 0, 0) = 5",
                "brightCells(0) = 1; step(0) = 1",
                "setDrift(0, -9, -7, -7) = throws IllegalStateException; direction(0, 0, 9) = 5",
                "brightCells(1) = 1; undo() = 2; brightCells(1) = 1");
        runs.run("15 to 17 with a closed shutter the position may be bright",
                "close() = 0; setAxis(0, -5, -4, -4) = 0; setCone(0, 99) = 1; isBright(0, 0) = true",
                "setDrift(0, -5, -4, -4) = 1; setAxis(0, -9, -8, -8) = 1",
                "open() = throws IllegalStateException; isClosed() = true; undo() = 4");
    }

    private static void step(Runs runs) {
        runs.run("18 step",
                "step(0) = 1; step(1) = 2; step(6) = 3; position() = 6; step(11) = 4; undo() = 3",
                "position() = 6; clock() = 3; step(8) = throws IllegalArgumentException",
                "step(0) = throws IllegalArgumentException",
                "step(150) = throws IndexOutOfBoundsException",
                "step(-1) = throws IndexOutOfBoundsException; clock() = 3; undo() = 2");
        runs.run("18 step over an edge of the cube",
                "step(25) = 1; step(45) = 2; step(65) = 3; step(25) = throws IllegalArgumentException",
                "step(45) = 4; step(25) = 5; step(30) = 6; step(0) = 7; step(30) = 8");
        runs.run("18 step, the new position must be dark one unit of time later",
                "setAxis(0, 5, 5, 5) = 0; setDrift(0, -5, -5, -5) = 0; setCone(0, 50) = 39",
                "step(0) = 1; step(1) = throws IllegalStateException",
                "step(0) = throws IllegalStateException",
                "step(2) = throws IllegalArgumentException; clock() = 1; position() = 0; undo() = 3");
        runs.run("18 step, a cell that is bright now may be dark then",
                "setAxis(0, -5, -2, -4) = 0; setDrift(0, 5, 9, 9) = 0",
                "setCone(0, 99) = 1; isBright(5, 0) = true; isBright(5, 1) = false; step(5) = 1",
                "clock() = 1; position() = 5");
        runs.run("18 step, the shutter and the last clock",
                "close() = 0; step(1) = throws IllegalStateException",
                "step(2) = throws IllegalArgumentException",
                "step(150) = throws IndexOutOfBoundsException; pass(100) = 100; pass(99) = 199",
                "open() = 199; step(1) = 200; step(1) = throws IllegalStateException",
                "step(0) = throws IllegalStateException; step(12) = throws IllegalArgumentException",
                "clock() = 200; undo() = 4; step(0) = 200");
    }

    private static void slew(Runs runs) {
        runs.run("19 slew",
                "slew(149) = 14; clock() = 14; position() = 149; slew(149) = 0; clock() = 14; undo() = 1",
                "position() = 149; undo() = 0; position() = 0; clock() = 0",
                "slew(150) = throws IndexOutOfBoundsException",
                "slew(-1) = throws IndexOutOfBoundsException; undo() = throws IllegalStateException");
        runs.run("19 slew, no plan",
                "setAxis(0, -5, 0, 0) = 0; setCone(0, 90) = 5",
                "slew(12) = throws IllegalStateException; clock() = 0; position() = 0; undo() = 1");
        runs.run("19 slew with waiting",
                "setAxis(0, -50, 40, 0) = 0; setDrift(0, 0, -4, 0) = 0; setCone(0, 90) = 7",
                "slew(12) = 17; clock() = 17; position() = 12; isBright(12, 17) = false",
                "isBright(12, 16) = true");
        runs.run("19 slew, the last clock",
                "close() = 0; slew(0) = throws IllegalStateException",
                "slew(150) = throws IndexOutOfBoundsException; pass(96) = 96; pass(100) = 196",
                "open() = 196; slew(24) = throws IllegalStateException; clock() = 196",
                "slew(12) = 4; clock() = 200; slew(12) = 0; slew(11) = throws IllegalStateException",
                "position() = 12");
    }

    private static void shutter(Runs runs) {
        runs.run("20 and 21 close and open",
                "open() = throws IllegalStateException; step(1) = 1; close() = 1; isClosed() = true",
                "close() = throws IllegalStateException; open() = 1; isClosed() = false",
                "open() = throws IllegalStateException; undo() = 2; isClosed() = true; undo() = 1",
                "isClosed() = false; close() = 1");
        runs.run("21 open, the position must be dark at the time of the clock",
                "setAxis(0, -5, -4, -4) = 0; setDrift(0, 1, 1, 1) = 0; close() = 0",
                "setCone(0, 90) = 10; open() = throws IllegalStateException; pass(1) = 1",
                "isBright(0, 1) = true; open() = throws IllegalStateException; pass(3) = 4",
                "isBright(0, 4) = false; open() = 4; undo() = 6; isClosed() = true; clock() = 4");
    }

    private static void pass(Runs runs) {
        runs.run("22 pass",
                "pass(1) = throws IllegalStateException; pass(0) = throws IllegalArgumentException",
                "pass(101) = throws IllegalArgumentException; close() = 0; pass(1) = 1",
                "pass(100) = 101; pass(0) = throws IllegalArgumentException",
                "pass(101) = throws IllegalArgumentException",
                "pass(-1) = throws IllegalArgumentException",
                "pass(2147483647) = throws IllegalArgumentException",
                "pass(100) = throws IllegalStateException; clock() = 101; pass(99) = 200",
                "pass(1) = throws IllegalStateException; clock() = 200; position() = 0; undo() = 3",
                "clock() = 101; isClosed() = true");
    }

    private static void requests(Runs runs) {
        runs.run("23 addRequest",
                "addRequest(0, 1, 1) = 0; addRequest(149, 20, 99) = 1",
                "addRequest(150, 1, 1) = throws IndexOutOfBoundsException",
                "addRequest(-1, 1, 1) = throws IndexOutOfBoundsException",
                "addRequest(0, 0, 1) = throws IllegalArgumentException",
                "addRequest(0, 21, 1) = throws IllegalArgumentException",
                "addRequest(0, 1, 0) = throws IllegalArgumentException",
                "addRequest(0, 1, 100) = throws IllegalArgumentException",
                "addRequest(150, 0, 0) = throws IndexOutOfBoundsException",
                "requestCount() = 2; addRequest(0, 1, 1) = 2; addRequest(0, 1, 1) = 3",
                "addRequest(0, 1, 1) = throws IllegalStateException",
                "addRequest(0, 21, 1) = throws IllegalArgumentException",
                "addRequest(0, 1, 100) = throws IllegalArgumentException",
                "addRequest(150, 1, 1) = throws IndexOutOfBoundsException",
                "requestCount() = 4; undo() = 3; requestCount() = 3");
        runs.run("23 and 24 with a closed shutter",
                "close() = 0; addRequest(3, 3, 3) = 0; removeRequest(0) = 0");
        runs.run("24 removeRequest",
                "removeRequest(0) = throws IndexOutOfBoundsException; addRequest(1, 1, 10) = 0",
                "addRequest(2, 2, 20) = 1; addRequest(3, 3, 30) = 2; addRequest(0, 4, 40) = 3",
                "removeRequest(4) = throws IndexOutOfBoundsException",
                "removeRequest(-1) = throws IndexOutOfBoundsException",
                "requestFinish(0) = 2; requestFinish(1) = 4; requestFinish(2) = 6",
                "requestFinish(3) = 4; removeRequest(1) = 3; requestFinish(0) = 2",
                "requestFinish(1) = 6; requestFinish(2) = 4; bestValue() = 80",
                "requestFinish(3) = throws IndexOutOfBoundsException",
                "removeRequest(3) = throws IndexOutOfBoundsException; removeRequest(2) = 2",
                "requestFinish(1) = 6; bestValue() = 40; addRequest(2, 9, 9) = 2; bestValue() = 49",
                "removeRequest(0) = 2; bestValue() = 39; removeRequest(0) = 1; bestValue() = 9",
                "requestFinish(0) = 11; removeRequest(0) = 0; bestValue() = 0",
                "removeRequest(0) = throws IndexOutOfBoundsException; undo() = 9; bestValue() = 9",
                "undo() = 8; bestValue() = 39; undo() = 7; bestValue() = 49");
    }

    private static void undo(Runs runs) {
        StringBuilder calls = new StringBuilder();
        for (int i = 1; i <= 20; i++) {
            calls.append("step(").append(i % 2).append(") = ").append(i).append(";");
        }
        for (int left = 13; left >= 0; left--) {
            calls.append("undo() = ").append(left).append(";");
            calls.append("clock() = ").append(left + 6).append(";");
            calls.append("position() = ").append(left % 2).append(";");
        }
        runs.run("25 fourteen states are remembered", calls.toString(),
                "undo() = throws IllegalStateException; clock() = 6; position() = 0",
                "step(1) = 7; undo() = 0; clock() = 6; undo() = throws IllegalStateException");
        runs.run("25 undo takes back all of the state",
                "setAxis(0, 5, 4, 4) = 0; setDrift(0, 1, 2, 3) = 0; setCone(0, 95) = 5; slew(2) = 2",
                "addRequest(7, 8, 9) = 0; close() = 2; pass(5) = 7; removeRequest(0) = 0",
                "undo() = 7; requestCount() = 1; undo() = 6; clock() = 2; undo() = 5",
                "isClosed() = false; requestFinish(0) = 11; undo() = 4; requestCount() = 0",
                "undo() = 3; position() = 0; clock() = 0; undo() = 2; cone(0) = 0",
                "direction(0, 2, 1) = 7; undo() = 1; direction(0, 2, 1) = 4; undo() = 0",
                "direction(0, 0, 0) = 1; undo() = throws IllegalStateException");
        runs.run("25 undo between actions",
                "step(1) = 1; step(2) = 2; undo() = 1; step(6) = 2; undo() = 1; position() = 1",
                "undo() = 0; position() = 0; step(5) = 1; step(6) = 2; undo() = 1; position() = 5");
    }

    private static void everyActionIsRemembered(Runs runs) {
        runs.run("25 actions that leave the state equal are remembered, failed calls are not",
                "setAxis(0, 1, 0, 0) = 0; setDrift(0, 0, 0, 0) = 0; setCone(0, 0) = 0; slew(0) = 0",
                "setAxis(0, 0, 0, 0) = throws IllegalArgumentException",
                "step(99) = throws IllegalArgumentException; open() = throws IllegalStateException",
                "undo() = 3; undo() = 2; undo() = 1; undo() = 0");
        runs.run("25 questions and saves are not actions",
                "addRequest(3, 3, 3) = 0; arrival(9) = 5; planCell(9, 2) = 2; reachableCells(3) = 22",
                "parkingCell(3) = 0; parkingSteps(3) = 0; requestFinish(0) = 6; bestValue() = 3",
                "bestOrder() = 1; randomWalk(9, 9) = 12; save(0) = 0; undo() = 0",
                "undo() = throws IllegalStateException");
    }
}
