/** If several exceptions apply to a call, the one that its description names first is thrown. */
final class OrderOfExceptionsTest {
    private static final String INDEX = " = throws IndexOutOfBoundsException;";
    private static final String ARGUMENT = " = throws IllegalArgumentException;";
    private static final String STATE = " = throws IllegalStateException;";

    public static void main(String[] arguments) {
        Runs runs = new Runs();
        runs.run("the index before the argument",
                "neighbour(150, 4)" + INDEX + "direction(3, 0, 301)" + INDEX,
                "direction(0, 3, 301)" + INDEX + "cosine(150, 0, 301)" + INDEX,
                "cosine(0, 3, 301)" + INDEX + "isBright(150, 301)" + INDEX,
                "firstBright(150, 301)" + INDEX + "setAxis(3, 0, 0, 0)" + INDEX,
                "setAxis(3, 100, 0, 0)" + INDEX + "setDrift(3, 10, 0, 0)" + INDEX,
                "setCone(3, 100)" + INDEX + "step(150)" + INDEX + "addRequest(150, 0, 0)" + INDEX,
                "planCell(150, 61)" + INDEX);
        runs.run("the index before the state", "close() = 0;",
                "step(-1)" + INDEX + "slew(-1)" + INDEX + "arrival(-1)" + INDEX,
                "planCell(-1, 0)" + INDEX + "planCell(-1, 61)" + INDEX + "requestFinish(0)" + INDEX,
                "restore(2)" + INDEX,
                "addRequest(0, 1, 1) = 0; addRequest(0, 1, 1) = 1; addRequest(0, 1, 1) = 2;",
                "addRequest(0, 1, 1) = 3; addRequest(150, 1, 1)" + INDEX,
                "addRequest(150, 0, 1)" + INDEX + "requestFinish(4)" + INDEX,
                "addRequest(0, 0, 1)" + ARGUMENT + "addRequest(0, 1, 0)" + ARGUMENT,
                "addRequest(0, 1, 1)" + STATE);
        runs.run("the argument before the state, closed", "close() = 0;",
                "step(2)" + ARGUMENT + "step(1)" + STATE + "planCell(0, 61)" + ARGUMENT,
                "planCell(0, 60)" + STATE + "reachableCells(61)" + ARGUMENT,
                "reachableCells(60)" + STATE + "parkingCell(41)" + ARGUMENT,
                "parkingCell(40)" + STATE + "parkingSteps(41)" + ARGUMENT,
                "parkingSteps(40)" + STATE + "randomWalk(0, 61)" + ARGUMENT,
                "randomWalk(0, 60)" + STATE + "pass(100) = 100; pass(99) = 199;",
                "pass(101)" + ARGUMENT + "pass(2)" + STATE + "pass(1) = 200");
        runs.run("the argument before the state, open", "pass(101)" + ARGUMENT + "pass(100)" + STATE);
        runs.run("the object, its range, the bright position",
                "setAxis(0, -5, -4, -4) = 0;",
                "setCone(3, 1)" + INDEX + "setCone(0, 100)" + ARGUMENT + "setCone(0, 90)" + STATE,
                "setAxis(0, 5, 4, 4) = 0; setCone(0, 90) = 10;",
                "setAxis(3, -5, -4, -4)" + INDEX + "setAxis(0, -100, -4, -4)" + ARGUMENT,
                "setAxis(0, -5, -4, -4)" + STATE + "step(0) = 1;",
                "setDrift(3, -9, -7, -7)" + INDEX + "setDrift(0, -10, -7, -7)" + ARGUMENT,
                "setDrift(0, -9, -7, -7)" + STATE + "undo() = 3");
        runs.end();
    }
}
