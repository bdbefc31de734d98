/** The sentences of the section BRIGHT OBJECTS that name a boundary case, a test each. */
final class BrightEdgesTest {
    /** Cells, axes and cones for which 10000 * p * p is equal to the product on the other side. */
    private static final int[][] EQUAL = {
        {75, 0, -24, 7, 28}, {75, 36, 60, 27, 36}, {82, 28, 75, 96, 60}, {12, -16, 12, -15, 64},
        {17, -35, -44, 58, 20}, {72, 0, -78, -21, 60}, {138, 78, 0, -21, 80}, {52, 15, -84, -12, 40},
        {147, 50, -1, -82, 40}, {78, 0, -24, -93, 60}, {139, 32, 0, 1, 80}, {50, 21, 60, -78, 16},
        {49, -72, 54, 45, 8}, {99, 28, 0, 56, 80}, {104, 56, 83, 10, 84}, {1, -60, -94, 8, 88},
        {100, 10, 31, -8, 92}, {104, 42, 56, 35, 96}};

    public static void main(String[] arguments) {
        Runs runs = new Runs();
        newObjects(runs);
        directions(runs);
        cones(runs);
        products(runs);
        equalProducts(runs);
        exactly(runs);
        noDirection(runs);
        anyObject(runs);
        emptyAndFull(runs);
        times(runs);
        runs.end();
    }

    private static void newObjects(Runs runs) {
        runs.run("in a new object all cones are 0, at all times nothing is bright",
                "cone(0) = 0; cone(1) = 0; cone(2) = 0; brightCells(0) = 0; brightCells(300) = 0",
                "isBright(137, 0) = false; isBright(82, 300) = false; firstBright(75, 0) = -9");
        runs.run("in a new object all drifts are 0",
                "direction(0, 0, 300) = 1; direction(0, 1, 300) = 0; direction(0, 2, 300) = 0",
                "direction(1, 0, 300) = 0; direction(1, 1, 300) = 1; direction(1, 2, 300) = 0",
                "direction(2, 0, 300) = 0; direction(2, 1, 300) = 0; direction(2, 2, 300) = 1");
        runs.run("in a new object the axes are (1, 0, 0), (0, 1, 0) and (0, 0, 1)",
                "setCone(0, 99) = 1; isBright(137, 0) = true; setCone(1, 99) = 2",
                "isBright(82, 0) = true; setCone(2, 99) = 3; isBright(75, 0) = true");
    }

    private static void directions(Runs runs) {
        runs.run("axis + t * drift, computed for each coordinate: at the times 0, 1 and 300",
                "setAxis(2, 99, -99, 7) = 0; setDrift(2, -9, 9, 4) = 0",
                "direction(2, 0, 0) = 99; direction(2, 1, 0) = -99; direction(2, 2, 0) = 7",
                "direction(2, 0, 1) = 90; direction(2, 1, 1) = -90; direction(2, 2, 1) = 11",
                "direction(2, 0, 300) = -2601; direction(2, 1, 300) = 2601",
                "direction(2, 2, 300) = 1207");
        runs.run("axis + t * drift: the greatest and the least there is",
                "setAxis(0, 99, 99, 99) = 0; setDrift(0, 9, 9, 9) = 0; direction(0, 0, 300) = 2799",
                "direction(0, 1, 300) = 2799; direction(0, 2, 300) = 2799; setCone(0, 98) = 3",
                "isBright(149, 300) = true; isBright(149, 0) = true; close() = 0",
                "setAxis(0, -99, -99, -99) = 3; setDrift(0, -9, -9, -9) = 3",
                "direction(0, 0, 300) = -2799; direction(0, 2, 300) = -2799",
                "isBright(0, 300) = true; isBright(149, 300) = false; brightCells(300) = 3");
        runs.run("the axis stays as it is when the drift is set",
                "setAxis(0, 7, 8, 9) = 0; setDrift(0, 1, 1, 1) = 0; setDrift(0, -1, 0, 9) = 0",
                "direction(0, 0, 0) = 7; direction(0, 1, 0) = 8; direction(0, 2, 0) = 9",
                "direction(0, 0, 1) = 6; direction(0, 1, 1) = 8; direction(0, 2, 1) = 18");
    }

    private static void cones(Runs runs) {
        runs.run("the cone 0 means that the object is switched off, 1 that it is not",
                "setAxis(0, 5, 0, 0) = 0; setCone(0, 0) = 0; isBright(137, 0) = false",
                "setCone(0, 1) = 65; isBright(137, 0) = true; setCone(0, 0) = 0",
                "isBright(137, 0) = false; firstBright(137, 0) = -9; brightCells(300) = 0");
        runs.run("the cone 99 is the narrowest",
                "setAxis(0, 5, 0, 0) = 0; setCone(0, 99) = 1; isBright(137, 0) = true",
                "isBright(132, 0) = false; isBright(138, 0) = false; setCone(0, 92) = 5",
                "isBright(138, 0) = true; setCone(0, 93) = 1");
        runs.run("an object that is switched off may be at the position",
                "setAxis(0, -5, -4, -4) = 0; setCone(0, 0) = 0; isBright(0, 0) = false",
                "setCone(0, 1) = throws IllegalStateException; cosine(0, 0, 0) = 1.0");
        runs.run("7 a cosine is computed for an object that is switched off too",
                "cone(0) = 0; cosine(137, 0, 0) = 1.0; cosine(12, 0, 300) = -1.0",
                "cosine(82, 0, 0) = 0.0; setCone(0, 50) = 45; cosine(137, 0, 0) = 1.0");
    }

    private static void products(Runs runs) {
        // The cell 149 is (5, 4, 4); the products are 1, 0 and -1.
        runs.run("a product of 1 is greater than 0",
                "setAxis(0, 1, -1, 0) = 0; setCone(0, 1) = 70; isBright(149, 0) = true",
                "setCone(0, 9) = 70; isBright(149, 0) = true; setCone(0, 10) = 66",
                "isBright(149, 0) = false");
        runs.run("a product of 0 is not greater than 0",
                "close() = 0; setAxis(0, 0, 1, -1) = 0; setCone(0, 1) = 70",
                "isBright(149, 0) = false; cosine(149, 0, 0) = 0.0");
        runs.run("a product of -1 is not greater than 0",
                "close() = 0; setAxis(0, -1, 1, 0) = 0; setCone(0, 1) = 70",
                "isBright(149, 0) = false; isBright(0, 0) = true");
        runs.run("a product that is far below 0 is not greater than 0",
                "setAxis(0, 5, 0, 0) = 0; setCone(0, 50) = 45; isBright(12, 0) = false",
                "isBright(137, 0) = true");
    }

    private static void equalProducts(Runs runs) {
        for (int[] e : EQUAL) {
            String axis = e[1] + ", " + e[2] + ", " + e[3];
            SlewPlanner planner = new SlewPlanner();
            planner.close();
            planner.setAxis(1, e[1], e[2], e[3]);
            String title = "equal is not greater, the cell " + e[0] + " and the axis " + axis;
            planner.setCone(1, e[4] + 1);
            runs.same(title + ", the next cone", false, planner.isBright(e[0], 0));
            planner.setCone(1, e[4]);
            runs.same(title, false, planner.isBright(e[0], 0));
            planner.setCone(1, e[4] - 1);
            runs.same(title + ", the cone before", true, planner.isBright(e[0], 0));
        }
        runs.run("equal is not greater, however long the direction is",
                "setAxis(0, 28, 0, 56) = 0; setDrift(0, 1, 0, 2) = 0; setCone(0, 80) = 14",
                "isBright(99, 0) = false; isBright(99, 1) = false; isBright(99, 300) = false",
                "firstBright(99, 0) = -9; setCone(0, 79) = 16; firstBright(99, 0) = 0",
                "isBright(99, 300) = true");
        runs.run("a little on this side of equal, a little on that side",
                "setAxis(0, 28, 1, 56) = 0; setCone(0, 80) = 15; isBright(99, 0) = true",
                "setAxis(0, 28, -1, 56) = 15; isBright(99, 0) = false");
    }

    private static void exactly(Runs runs) {
        runs.run("computed exactly: greater by 147075 of 1167696360000",
                "setAxis(0, 58, 24, 1) = 0; setDrift(0, 1, 6, 4) = 0; setCone(0, 85) = 10",
                "isBright(63, 300) = true; isBright(63, 299) = false; firstBright(63, 0) = 300",
                "setCone(0, 86) = 9; isBright(63, 300) = false");
        runs.run("computed exactly: less by 59720 of 2050910410000",
                "setAxis(0, -69, 63, 58) = 0; setDrift(0, 7, 5, -9) = 0; setCone(0, 58) = 29",
                "isBright(60, 300) = false; setCone(0, 57) = 30; isBright(60, 300) = true");
    }

    private static void noDirection(Runs runs) {
        runs.run("a direction of (0, 0, 0) makes nothing bright", Scenes.DAY,
                "direction(0, 0, 10) = 0; direction(0, 1, 10) = 0; direction(0, 2, 10) = 0",
                "brightCells(9) = 150; brightCells(10) = 0; brightCells(11) = 150",
                "isBright(0, 10) = false; isBright(149, 10) = false");
        runs.run("7 NaN if the direction is (0, 0, 0), and only then", Scenes.DAY,
                "cosine(0, 0, 10) = NaN; cosine(149, 1, 10) = NaN; cosine(75, 2, 10) = NaN",
                "cosine(137, 0, 9) = -0.816496580927726; cosine(137, 0, 11) = 0.816496580927726",
                "setCone(0, 0) = 125; cosine(0, 0, 10) = NaN");
    }

    private static void anyObject(Runs runs) {
        String three = "setAxis(0, 5, 0, 0) = 0; setAxis(1, 5, 0, 0) = 0; setAxis(2, 5, 0, 0) = 0;";
        for (int object = 0; object < 3; object++) {
            runs.run("one object that is switched on is enough, the object " + object, three,
                    "setCone(" + object + ", 95) = 1; isBright(137, 0) = true; brightCells(0) = 1",
                    "setCone(" + object + ", 0) = 0; isBright(137, 0) = false");
        }
        runs.run("a cell in the cones of all three is one bright cell", three,
                "setCone(0, 95) = 1; setCone(1, 95) = 1; setCone(2, 95) = 1; brightCells(0) = 1");
    }

    private static void emptyAndFull(Runs runs) {
        runs.run("9 no cell is bright", "brightCells(0) = 0; setCone(0, 99) = 1; setCone(0, 0) = 0");
        runs.run("9 all 150 cells are bright", Scenes.DAY, "brightCells(0) = 150; brightCells(300) = 150",
                "open() = throws IllegalStateException; pass(9) = 9",
                "open() = throws IllegalStateException; pass(1) = 10; open() = 10");
        runs.run("where all is bright but at one time, no step is possible", Scenes.DAY,
                "pass(10) = 10; open() = 10; step(0) = throws IllegalStateException",
                "step(1) = throws IllegalStateException; slew(0) = 0; arrival(0) = 0",
                "arrival(1) = -9; planCell(0, 0) = 0; planCell(0, 1) = -9; reachableCells(0) = 1",
                "reachableCells(1) = 0; reachableCells(60) = 0; parkingCell(0) = 0",
                "parkingSteps(0) = 0; parkingCell(1) = -9; parkingSteps(1) = -9",
                "addRequest(0, 1, 99) = 0; requestFinish(0) = -9; bestValue() = 0; bestOrder() = 1",
                "randomWalk(1, 60) = 0; setDrift(0, 2, -1, -2) = throws IllegalStateException",
                "close() = 10; pass(90) = 100; open() = throws IllegalStateException");
        runs.run("10 the first time, when all is bright at all but one", Scenes.DAY,
                "firstBright(0, 0) = 0; firstBright(0, 9) = 9; firstBright(0, 10) = 11",
                "firstBright(149, 11) = 11; firstBright(149, 300) = 300");
    }

    private static void times(Runs runs) {
        runs.run("8 the times 0 and 300",
                "setAxis(0, 75, 0, 0) = 0; setDrift(0, 0, 1, 0) = 0; setCone(0, 97) = 1",
                "isBright(137, 0) = true; isBright(137, 18) = true; isBright(137, 19) = false",
                "isBright(82, 299) = false; isBright(82, 300) = true",
                "isBright(137, -1) = throws IllegalArgumentException",
                "isBright(82, 301) = throws IllegalArgumentException");
        runs.run("10 the smallest time from from to 300: from itself, and 300 itself",
                "setAxis(0, 75, 0, 0) = 0; setDrift(0, 0, 1, 0) = 0; setCone(0, 97) = 1",
                "firstBright(137, 0) = 0; firstBright(137, 18) = 18; firstBright(137, 19) = -9",
                "firstBright(82, 0) = 300; firstBright(82, 299) = 300; firstBright(82, 300) = 300",
                "firstBright(137, 300) = -9");
        runs.run("10 the times do not begin with the clock", Scenes.FLASH,
                "firstBright(0, 0) = 5; firstBright(0, 5) = 5; firstBright(0, 6) = -9",
                "close() = 0; pass(50) = 50; firstBright(0, 0) = 5; isBright(0, 5) = true");
        runs.run("9 the count of another time than that of the clock", Scenes.ARRIVING,
                "brightCells(9) = 1; brightCells(10) = 0; brightCells(11) = 1; slew(149) = 14",
                "brightCells(10) = 0; brightCells(0) = 1");
    }
}
