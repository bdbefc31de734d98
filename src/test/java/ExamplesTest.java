/** The five examples of the document. */
final class ExamplesTest {
    public static void main(String[] arguments) {
        Runs runs = new Runs();
        runs.run("example 1, a slew by the best plan",
                "cellOf(-5, 0, 0) = 12; neighbour(12, 0) = 7; neighbour(12, 3) = 17",
                "arrival(12) = 4; planCell(12, 1) = 1; planCell(12, 2) = 2; slew(12) = 4",
                "clock() = 4; position() = 12");
        runs.run("example 2, a cone that must be avoided",
                "setAxis(0, -5, 0, 0) = 0; setCone(0, 90) = 5; isBright(12, 0) = true",
                "cosine(12, 0, 0) = 1.0; arrival(12) = -9; arrival(24) = 8",
                "step(6) = throws IllegalArgumentException");
        runs.run("example 3, a closed shutter",
                "step(2) = throws IllegalArgumentException; close() = 0",
                "step(1) = throws IllegalStateException; pass(10) = 10; open() = 10; undo() = 2",
                "isClosed() = true; clock() = 10");
        runs.run("example 4, two requests",
                "addRequest(1, 5, 10) = 0; addRequest(2, 5, 10) = 1; requestFinish(0) = 6",
                "requestFinish(1) = 7; bestValue() = 20; bestOrder() = 12");
        runs.run("example 5, an object that is switched off",
                "setAxis(0, -5, -4, -4) = 0; setCone(0, 95) = throws IllegalStateException",
                "reachableCells(1) = 5; parkingSteps(40) = 0; setDrift(0, 1, 1, 1) = 0",
                "firstBright(0, 0) = -9");
        runs.end();
    }
}
