/** Promises 31 to 33: requestFinish, bestValue, bestOrder. */
final class RequestsTest {
    /** The cell 12 alone is bright, from the time 11 on. */
    private static final String SOON =
            "setAxis(0, 10, 0, 0) = 0; setDrift(0, -1, 0, 0) = 0; setCone(0, 95) = 1;";
    /** An object that comes over the position at the time 8. */
    private static final String COMING =
            "setAxis(0, -5, 20, 20) = 0; setDrift(0, 0, -3, -3) = 0; setCone(0, 90) = 10;";

    public static void main(String[] arguments) {
        Runs runs = new Runs();
        requestFinish(runs);
        deadline(runs);
        best(runs);
        equalOrders(runs);
        threeOfFour(runs);
        runs.end();
    }

    private static void requestFinish(Runs runs) {
        runs.run("31 requestFinish",
                "requestFinish(0) = throws IndexOutOfBoundsException",
                "addRequest(0, 1, 1) = 0; addRequest(12, 20, 1) = 1; addRequest(149, 5, 1) = 2",
                "requestFinish(0) = 1; requestFinish(1) = 24; requestFinish(2) = 19",
                "requestFinish(3) = throws IndexOutOfBoundsException",
                "requestFinish(-1) = throws IndexOutOfBoundsException",
                "requestFinish(2147483647) = throws IndexOutOfBoundsException",
                "slew(12) = 4; requestFinish(0) = 9; requestFinish(1) = 24; close() = 4",
                "requestFinish(1) = throws IllegalStateException",
                "requestFinish(3) = throws IndexOutOfBoundsException",
                "pass(96) = 100; open() = 100; requestFinish(0) = 105; requestFinish(1) = 120");
        runs.run("31 the cell must be dark until the end of the exposure", SOON,
                "firstBright(12, 0) = 11; addRequest(12, 6, 1) = 0; addRequest(12, 7, 1) = 1",
                "requestFinish(0) = 10; requestFinish(1) = -9; step(0) = 1; requestFinish(0) = -9",
                "undo() = 5; requestFinish(0) = 10");
        runs.run("31 a request that must wait", COMING,
                "addRequest(0, 7, 1) = 0; addRequest(0, 8, 1) = 1; addRequest(2, 20, 1) = 2",
                "isBright(0, 10) = true; isBright(0, 11) = false; requestFinish(0) = 7",
                "requestFinish(1) = 19; requestFinish(2) = 22; step(1) = 1; requestFinish(0) = 18",
                "requestFinish(2) = 22");
        runs.run("31 the object passes, then the request is fulfilled",
                "setAxis(0, -50, 40, 0) = 0; setDrift(0, 0, -4, 0) = 0; setCone(0, 90) = 7",
                "addRequest(12, 5, 1) = 0; addRequest(12, 20, 1) = 1; requestFinish(0) = 22",
                "requestFinish(1) = 37");
    }

    private static void deadline(Runs runs) {
        runs.run("31 not later than the clock plus 60",
                // The cell 12 alone is bright, first until the time 39, then until 40.
                "setAxis(0, -40, 0, 0) = 0; setDrift(0, 1, 0, 0) = 0; setCone(0, 95) = 1",
                "addRequest(12, 20, 7) = 0; addRequest(12, 19, 7) = 1; requestFinish(0) = 60",
                "requestFinish(1) = 59; bestValue() = 7; setAxis(0, -41, 0, 0) = 1",
                "requestFinish(0) = -9; requestFinish(1) = 60; bestValue() = 7; bestOrder() = 12",
                "step(0) = 1; requestFinish(0) = 61; requestFinish(1) = 60; removeRequest(1) = 1",
                "setAxis(0, -42, 0, 0) = 1; bestValue() = 0; bestOrder() = 1");
        runs.run("31 no way to the cell",
                "setAxis(0, -5, 0, 0) = 0; setCone(0, 90) = 5; addRequest(12, 1, 99) = 0",
                "requestFinish(0) = -9; bestValue() = 0; bestOrder() = 1");
    }

    private static void best(Runs runs) {
        runs.run("32 and 33 no requests", "bestValue() = 0; bestOrder() = 0");
        runs.run("32 and 33 the order counts", SOON,
                "addRequest(0, 20, 10) = 0; addRequest(12, 6, 5) = 1; requestFinish(0) = 20",
                "requestFinish(1) = 10; bestValue() = 15; bestOrder() = 21; step(0) = 1",
                "bestValue() = 10; bestOrder() = 12; close() = 1",
                "bestValue() = throws IllegalStateException; bestOrder() = throws IllegalStateException");
        runs.run("32 and 33 the objects of the present state", SOON,
                "addRequest(0, 20, 10) = 0; addRequest(12, 6, 5) = 1; bestOrder() = 21",
                "setCone(0, 0) = 0; bestOrder() = 12; undo() = 5; bestOrder() = 21; save(0) = 0",
                "setCone(0, 0) = 0; bestValue() = 15; bestOrder() = 12; restore(0) = 0",
                "bestOrder() = 21");
        runs.run("32 and 33 what is worth more", SOON,
                // Only one of the two can be done before the cell 12 is bright.
                "addRequest(12, 6, 5) = 0; addRequest(12, 5, 7) = 1; bestValue() = 7; bestOrder() = 21",
                "removeRequest(1) = 1; addRequest(12, 5, 4) = 1; bestValue() = 5; bestOrder() = 12");
        runs.run("32 and 33 a second exposure goes on from where the first one ended", SOON,
                "addRequest(12, 3, 5) = 0; addRequest(12, 3, 7) = 1; bestValue() = 12",
                "bestOrder() = 12; addRequest(12, 1, 1) = 2; bestValue() = 12; bestOrder() = 123");
    }

    private static void equalOrders(Runs runs) {
        runs.run("33 the smallest of several",
                "addRequest(1, 1, 5) = 0; addRequest(1, 1, 5) = 1; addRequest(1, 1, 5) = 2",
                "bestOrder() = 123; addRequest(1, 1, 5) = 3; bestOrder() = 1234; bestValue() = 20");
        runs.run("33 a request that can not be fulfilled stands as early as any",
                "setAxis(0, -5, 0, 0) = 0; setCone(0, 90) = 5; addRequest(12, 1, 99) = 0",
                "addRequest(1, 1, 3) = 1; bestValue() = 3; bestOrder() = 12");
        runs.run("33 the numbers after a removal", SOON,
                "addRequest(3, 1, 1) = 0; addRequest(0, 20, 10) = 1; addRequest(12, 6, 5) = 2",
                "bestOrder() = 312; bestValue() = 16; removeRequest(0) = 2; bestOrder() = 21");
    }

    private static void threeOfFour(Runs runs) {
        runs.run("32 and 33 three of four exposures of 20 end by 60",
                "addRequest(0, 20, 5) = 0; addRequest(0, 20, 10) = 1; addRequest(0, 20, 20) = 2",
                "addRequest(0, 20, 40) = 3; bestValue() = 70; bestOrder() = 2341; step(0) = 1",
                "bestValue() = 70; removeRequest(0) = 3; bestOrder() = 123; bestValue() = 70");
        runs.run("32 and 33 when the least is skipped in the middle",
                "addRequest(0, 20, 99) = 0; addRequest(0, 20, 1) = 1; addRequest(0, 20, 99) = 2",
                "addRequest(0, 20, 99) = 3; bestValue() = 297; bestOrder() = 1342");
    }
}
