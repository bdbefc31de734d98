/** The sentences of the section REQUESTS that name a boundary case, a test each. */
final class RequestEdgesTest {
    public static void main(String[] arguments) {
        Runs runs = new Runs();
        atMostFour(runs);
        darkTimes(runs);
        lastFinish(runs);
        lastFinishOfAnOrder(runs);
        skipped(runs);
        emptyAndFull(runs);
        smallestOrder(runs);
        runs.end();
    }

    private static void atMostFour(Runs runs) {
        runs.run("at most 4 requests, numbered from 0", Scenes.FULL,
                "addRequest(0, 1, 1) = throws IllegalStateException; requestCount() = 4",
                "requestFinish(0) = 1; requestFinish(3) = 13",
                "requestFinish(4) = throws IndexOutOfBoundsException",
                "requestFinish(-1) = throws IndexOutOfBoundsException");
        runs.run("at most 4 requests: after a removal there is room for one", Scenes.FULL,
                "removeRequest(1) = 3; addRequest(0, 1, 1) = 3",
                "addRequest(0, 1, 1) = throws IllegalStateException");
        runs.run("23 an exposure of 1 and of 20",
                "addRequest(0, 1, 1) = 0; addRequest(0, 20, 1) = 1; requestFinish(0) = 1",
                "requestFinish(1) = 20; addRequest(0, 0, 1) = throws IllegalArgumentException",
                "addRequest(0, 21, 1) = throws IllegalArgumentException; requestCount() = 2");
        runs.run("23 a value of 1 and of 99",
                "addRequest(0, 1, 1) = 0; bestValue() = 1; addRequest(0, 1, 99) = 1; bestValue() = 100",
                "addRequest(0, 1, 0) = throws IllegalArgumentException",
                "addRequest(0, 1, 100) = throws IllegalArgumentException; bestValue() = 100");
        runs.run("24 the numbers behind it become smaller by 1: the first is removed", Scenes.FULL,
                "removeRequest(0) = 3; requestFinish(0) = 24; requestFinish(1) = 17",
                "requestFinish(2) = 13; requestFinish(3) = throws IndexOutOfBoundsException");
        runs.run("24 the numbers behind it become smaller by 1: the last is removed", Scenes.FULL,
                "removeRequest(3) = 3; requestFinish(0) = 1; requestFinish(1) = 24",
                "requestFinish(2) = 17; requestFinish(3) = throws IndexOutOfBoundsException");
        runs.run("24 until there is none", Scenes.FULL,
                "removeRequest(0) = 3; removeRequest(0) = 2; removeRequest(0) = 1",
                "removeRequest(0) = 0; removeRequest(0) = throws IndexOutOfBoundsException",
                "requestCount() = 0; bestOrder() = 0; bestValue() = 0");
    }

    private static void darkTimes(Runs runs) {
        // The cell 0 is bright at the time 5 alone.
        runs.run("dark from s to s + exposure: until 4", Scenes.FLASH,
                "addRequest(0, 4, 1) = 0; requestFinish(0) = 4");
        runs.run("dark from s to s + exposure: until 5 it is not, so s is 6", Scenes.FLASH,
                "addRequest(0, 5, 1) = 0; requestFinish(0) = 11");
        runs.run("dark from s on: the cell 1 is bright until 9, so s is 10", Scenes.LEAVING,
                "addRequest(1, 1, 1) = 0; requestFinish(0) = 11");
        runs.run("none or more steps: none", "slew(12) = 4; addRequest(12, 1, 1) = 0",
                "requestFinish(0) = 5");
        runs.run("none or more steps: to stay until the cell is dark long enough", Scenes.ARRIVING,
                // The cell 12 is dark until 10 and bright from 11 on.
                "addRequest(12, 6, 1) = 0; requestFinish(0) = 10; addRequest(12, 7, 1) = 1",
                "requestFinish(1) = -9; step(0) = 1; requestFinish(0) = -9; removeRequest(0) = 1",
                "addRequest(12, 5, 1) = 1; requestFinish(1) = 10");
    }

    private static void lastFinish(Runs runs) {
        runs.run("finished at the present clock plus 60: at the clock 0",
                // The cell 12 alone is bright until the time 39.
                "setAxis(0, -40, 0, 0) = 0; setDrift(0, 1, 0, 0) = 0; setCone(0, 95) = 1",
                "addRequest(12, 20, 8) = 0; requestFinish(0) = 60; bestValue() = 8");
        runs.run("finished later than the present clock plus 60: at the clock 0",
                // Until the time 40.
                "setAxis(0, -41, 0, 0) = 0; setDrift(0, 1, 0, 0) = 0; setCone(0, 95) = 1",
                "addRequest(12, 20, 8) = 0; addRequest(12, 19, 7) = 1; requestFinish(0) = -9",
                "requestFinish(1) = 60; bestValue() = 7; step(0) = 1; requestFinish(0) = 61",
                "requestFinish(1) = 60; bestValue() = 8; bestOrder() = 12");
        runs.run("finished at the present clock plus 60: at the clock 200", Scenes.LATE,
                "setAxis(0, 60, -42, -68) = 0; setDrift(0, -1, 0, 0) = 0; setCone(0, 99) = 1",
                "isBright(6, 239) = true; isBright(6, 240) = false; addRequest(6, 20, 9) = 2",
                "requestFinish(2) = 260; bestValue() = 115");
        runs.run("finished later than the present clock plus 60: at the clock 200", Scenes.LATE,
                "setAxis(0, -61, -79, -89) = 0; setDrift(0, -1, 0, 0) = 0; setCone(0, 99) = 1",
                "isBright(6, 240) = true; isBright(6, 241) = false; addRequest(6, 20, 9) = 2",
                "requestFinish(2) = -9; addRequest(6, 19, 9) = 3; requestFinish(3) = 260");
        runs.run("beyond the clock 200", Scenes.LATE,
                "requestFinish(0) = 208; requestFinish(1) = 221; bestValue() = 106; bestOrder() = 12");
    }

    private static void lastFinishOfAnOrder(Runs runs) {
        runs.run("the present clock plus 60 for the last of an order: 60",
                "addRequest(0, 20, 1) = 0; addRequest(0, 20, 1) = 1; addRequest(0, 19, 1) = 2",
                "addRequest(0, 1, 1) = 3; bestValue() = 4; bestOrder() = 1234");
        runs.run("the present clock plus 60 for the last of an order: 61 is too late",
                "addRequest(0, 20, 2) = 0; addRequest(0, 20, 2) = 1; addRequest(0, 19, 2) = 2",
                "addRequest(0, 2, 1) = 3; bestValue() = 6; bestOrder() = 1234",
                "removeRequest(3) = 3; addRequest(0, 2, 3) = 3; bestValue() = 7; bestOrder() = 1243");
        runs.run("the present clock, not 0",
                "step(1) = 1; step(0) = 2; addRequest(0, 20, 1) = 0; addRequest(0, 20, 1) = 1",
                "addRequest(0, 20, 1) = 2; bestValue() = 3; addRequest(0, 1, 1) = 3; bestValue() = 3");
        runs.run("steps count too", "addRequest(0, 20, 5) = 0; addRequest(1, 20, 5) = 1",
                "addRequest(0, 18, 5) = 2; bestValue() = 15; bestOrder() = 123; removeRequest(2) = 2",
                "addRequest(2, 19, 5) = 2; bestValue() = 10; bestOrder() = 123; removeRequest(2) = 2",
                "addRequest(2, 18, 5) = 2; bestValue() = 15; bestOrder() = 123");
    }

    private static void skipped(Runs runs) {
        runs.run("the next one begins where and when the last fulfilled one was finished",
                // After two of them the cell 149 is too far: it is skipped, and the telescope stays.
                "addRequest(0, 20, 50) = 0; addRequest(0, 20, 50) = 1; addRequest(149, 20, 1) = 2",
                "addRequest(0, 20, 50) = 3; bestValue() = 150; bestOrder() = 1234");
        runs.run("skipped as the first one", "setAxis(0, -5, 0, 0) = 0; setCone(0, 95) = 1",
                "addRequest(12, 1, 99) = 0; addRequest(0, 20, 5) = 1; addRequest(1, 20, 6) = 2",
                "addRequest(2, 18, 7) = 3; bestValue() = 18; bestOrder() = 1234");
        runs.run("skipped as the last one",
                "addRequest(0, 20, 50) = 0; addRequest(0, 20, 50) = 1; addRequest(0, 20, 50) = 2",
                "addRequest(0, 1, 49) = 3; bestValue() = 150; bestOrder() = 1234");
    }

    private static void emptyAndFull(Runs runs) {
        runs.run("32 and 33 no requests", "bestValue() = 0; bestOrder() = 0");
        runs.run("32 and 33 one request", "addRequest(0, 1, 42) = 0; bestValue() = 42; bestOrder() = 1");
        runs.run("32 and 33 four requests", Scenes.FULL,
                "requestFinish(0) = 1; requestFinish(1) = 24; requestFinish(2) = 17",
                "bestValue() = 110; bestOrder() = 1234");
        runs.run("32 and 33 four requests of the greatest value",
                "addRequest(0, 1, 99) = 0; addRequest(0, 1, 99) = 1; addRequest(0, 1, 99) = 2",
                "addRequest(0, 1, 99) = 3; bestValue() = 396; bestOrder() = 1234");
        runs.run("32 and 33 four requests, none of which can be fulfilled", Scenes.DAY,
                "addRequest(0, 1, 99) = 0; addRequest(1, 1, 99) = 1; addRequest(0, 1, 1) = 2",
                "addRequest(149, 20, 99) = 3; pass(10) = 10; open() = 10; requestFinish(0) = -9",
                "requestFinish(3) = -9; bestValue() = 0; bestOrder() = 1234");
        runs.run("32 and 33 one request that can not be fulfilled", Scenes.DAY,
                "addRequest(0, 1, 99) = 0; pass(10) = 10; open() = 10; bestValue() = 0",
                "bestOrder() = 1");
    }

    private static void smallestOrder(Runs runs) {
        runs.run("among several it is the lexicographically smallest one",
                "addRequest(3, 1, 7) = 0; addRequest(1, 1, 7) = 1; addRequest(2, 1, 7) = 2",
                "bestOrder() = 123; addRequest(0, 1, 7) = 3; bestOrder() = 1234; bestValue() = 28");
        runs.run("the greatest value before the smallest order", Scenes.ARRIVING,
                "addRequest(0, 20, 10) = 0; addRequest(12, 6, 5) = 1; bestOrder() = 21",
                "bestValue() = 15");
        runs.run("a value that is greater by 1",
                "addRequest(0, 20, 50) = 0; addRequest(0, 20, 50) = 1; addRequest(0, 20, 50) = 2",
                "addRequest(0, 20, 50) = 3; bestOrder() = 1234; bestValue() = 150",
                "removeRequest(3) = 3; addRequest(0, 20, 51) = 3; bestOrder() = 1243",
                "bestValue() = 151");
    }
}
