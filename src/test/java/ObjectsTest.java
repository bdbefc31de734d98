/** Promises 5 to 10: direction, cone, cosine, isBright, brightCells, firstBright. */
final class ObjectsTest {
    public static void main(String[] arguments) {
        Runs runs = new Runs();
        runs.run("5 direction",
                "setAxis(1, 99, -99, 0) = 0; setDrift(1, -9, 9, 5) = 0",
                "direction(1, 0, 0) = 99; direction(1, 1, 0) = -99; direction(1, 2, 0) = 0",
                "direction(1, 0, 300) = -2601; direction(1, 1, 300) = 2601",
                "direction(1, 2, 300) = 1500; direction(1, 2, 1) = 5; direction(1, 0, 11) = 0",
                "direction(0, 0, 300) = 1; direction(2, 2, 300) = 1",
                "direction(3, 0, 0) = throws IndexOutOfBoundsException",
                "direction(-1, 0, 0) = throws IndexOutOfBoundsException",
                "direction(0, 3, 0) = throws IndexOutOfBoundsException",
                "direction(0, -1, 0) = throws IndexOutOfBoundsException",
                "direction(0, 0, 301) = throws IllegalArgumentException",
                "direction(0, 0, -1) = throws IllegalArgumentException",
                "direction(3, 0, 301) = throws IndexOutOfBoundsException",
                "direction(0, 3, -1) = throws IndexOutOfBoundsException",
                "direction(2147483647, -2147483648, 2147483647) = throws IndexOutOfBoundsException");
        runs.run("5 the direction does not follow the clock",
                "setDrift(0, 1, 2, 3) = 0; step(1) = 1; step(1) = 2; direction(0, 0, 0) = 1",
                "direction(0, 1, 2) = 4; direction(0, 2, 2) = 6");
        runs.run("6 cone",
                "cone(0) = 0; setAxis(1, 5, 0, 0) = 0; setCone(1, 99) = 1; cone(1) = 99",
                "cone(0) = 0; cone(2) = 0; setCone(1, 0) = 0; cone(1) = 0",
                "cone(3) = throws IndexOutOfBoundsException",
                "cone(-1) = throws IndexOutOfBoundsException",
                "cone(-2147483648) = throws IndexOutOfBoundsException");
        cosine(runs);
        isBright(runs);
        brightCells(runs);
        firstBright(runs);
        runs.end();
    }

    private static void cosine(Runs runs) {
        runs.run("7 cosine",
                "cosine(0, 2, 0) = -0.5298129428260175; cosine(137, 0, 0) = 1.0",
                "cosine(12, 0, 300) = -1.0; cosine(137, 1, 0) = 0.0; cosine(67, 0, 0) = 0.0",
                "setAxis(0, 3, 4, 0) = 0; cosine(137, 0, 0) = 0.6; cosine(12, 0, 0) = -0.6",
                "cosine(150, 0, 0) = throws IndexOutOfBoundsException",
                "cosine(-1, 0, 0) = throws IndexOutOfBoundsException",
                "cosine(0, 3, 0) = throws IndexOutOfBoundsException",
                "cosine(0, -1, 0) = throws IndexOutOfBoundsException",
                "cosine(0, 0, -1) = throws IllegalArgumentException",
                "cosine(0, 0, 301) = throws IllegalArgumentException",
                "cosine(150, 0, 301) = throws IndexOutOfBoundsException",
                "cosine(0, 3, -1) = throws IndexOutOfBoundsException");
        runs.run("7 cosine, no direction",
                "setAxis(2, 10, -20, 30) = 0; setDrift(2, -1, 2, -3) = 0; cosine(3, 2, 10) = NaN",
                "cosine(149, 2, 10) = NaN; isBright(149, 10) = false; setCone(2, 1) = 73",
                "cosine(0, 2, 10) = NaN; brightCells(10) = 0");
        for (int i = 0; i < 40; i++) {
            sameAsTheFormula(runs, i);
        }
    }

    /** Each digit of the cosine is due, for many directions, short ones and long ones. */
    private static void sameAsTheFormula(Runs runs, int i) {
        for (int time = 0; time <= 300; time++) {
            SlewPlanner planner = new SlewPlanner();
            planner.setAxis(0, i * 37 % 199 - 99, i * 71 % 199 - 99, i * 11 % 199 - 99);
            planner.setDrift(0, i % 19 - 9, i * 5 % 19 - 9, i * 3 % 19 - 9);
            int cell = (time * 7 + i) % 150;
            double p = 0;
            double v = 0;
            double a = 0;
            for (int c = 0; c < 3; c++) {
                int x = planner.coordinate(cell, c);
                int y = planner.direction(0, c, time);
                p += x * y;
                v += x * x;
                a += y * y;
            }
            double due = p / (Math.sqrt(v) * Math.sqrt(a));
            runs.same("7 cosine of " + v + " and " + a, due, planner.cosine(cell, 0, time));
        }
    }

    private static void isBright(Runs runs) {
        runs.run("8 a cell at the very edge of a cone is dark",
                "setAxis(0, 3, 4, 0) = 0; setCone(0, 60) = 29; isBright(137, 0) = false",
                "setCone(0, 59) = 32; isBright(137, 0) = true; isBright(137, 300) = true",
                "setAxis(0, 4, 3, 0) = 32; setCone(0, 80) = 16; isBright(137, 7) = false",
                "setCone(0, 79) = 17; isBright(137, 7) = true; setCone(0, 0) = 0",
                "isBright(137, 7) = false");
        runs.run("8 the length of the direction does not count",
                "setAxis(1, 75, 99, 0) = 0; setCone(1, 60) = 30; isBright(137, 0) = true",
                "setAxis(1, 74, 99, 0) = 29; isBright(137, 0) = false",
                "setAxis(1, 9, 12, 0) = 29; isBright(137, 0) = false");
        runs.run("8 only cells on the side of the object are bright",
                "setAxis(0, 5, 0, 0) = 0; setCone(0, 1) = 65; isBright(137, 0) = true",
                "isBright(12, 0) = false; coordinate(67, 0) = 0; isBright(67, 0) = false",
                "isBright(92, 0) = true");
        runs.run("8 any of the objects",
                "setAxis(0, 5, 0, 0) = 0; setAxis(1, 0, 5, 0) = 0; setAxis(2, 0, 0, 5) = 0",
                "setCone(0, 90) = 5; setCone(1, 90) = 10; setCone(2, 90) = 15",
                "isBright(137, 0) = true; isBright(82, 0) = true; isBright(75, 0) = true",
                "isBright(74, 0) = false; setCone(1, 0) = 10; isBright(82, 0) = false",
                "isBright(75, 0) = true; setCone(0, 0) = 5; isBright(75, 0) = true");
        runs.run("8 wrong inputs",
                "isBright(150, 0) = throws IndexOutOfBoundsException",
                "isBright(-1, 0) = throws IndexOutOfBoundsException",
                "isBright(0, 301) = throws IllegalArgumentException",
                "isBright(0, -1) = throws IllegalArgumentException",
                "isBright(150, 301) = throws IndexOutOfBoundsException",
                "isBright(149, 300) = false; isBright(0, 0) = false");
    }

    private static void brightCells(Runs runs) {
        runs.run("9 brightCells",
                "setAxis(0, 5, 5, 5) = 0; setDrift(0, -1, -1, -1) = 0; setCone(0, 50) = 39",
                "brightCells(0) = 39; brightCells(4) = 39; brightCells(5) = 0",
                "brightCells(6) = 39; brightCells(300) = 39; setCone(0, 1) = 75",
                "brightCells(0) = 75; brightCells(5) = 0; brightCells(300) = 75",
                "setCone(0, 0) = 0; brightCells(300) = 0",
                "brightCells(301) = throws IllegalArgumentException",
                "brightCells(-1) = throws IllegalArgumentException",
                "brightCells(2147483647) = throws IllegalArgumentException");
        runs.run("9 a cell in two cones counts once",
                "setAxis(0, 5, 0, 0) = 0; setAxis(1, 5, 0, 0) = 0; setCone(0, 90) = 5",
                "setCone(1, 90) = 5; brightCells(0) = 5; setCone(1, 99) = 5; undo() = 4",
                "brightCells(0) = 5; undo() = 3; undo() = 2; brightCells(0) = 0");
    }

    private static void firstBright(Runs runs) {
        runs.run("10 firstBright",
                "setAxis(0, 99, 0, 0) = 0; setDrift(0, -1, 0, 0) = 0; setCone(0, 50) = 45",
                "firstBright(12, 0) = 100; firstBright(12, 99) = 100; firstBright(12, 100) = 100",
                "firstBright(12, 101) = 101; firstBright(12, 300) = 300",
                "firstBright(137, 0) = 0; firstBright(137, 98) = 98; firstBright(137, 99) = -9",
                "firstBright(67, 0) = -9");
        runs.run("10 firstBright at the last time",
                "setAxis(1, 75, 0, 0) = 0; setDrift(1, 0, 1, 0) = 0; setCone(1, 97) = 1",
                "firstBright(82, 0) = 300; firstBright(82, 300) = 300; isBright(82, 299) = false",
                "isBright(82, 300) = true; firstBright(137, 0) = 0; firstBright(137, 19) = -9");
        runs.run("10 wrong inputs",
                "firstBright(150, 0) = throws IndexOutOfBoundsException",
                "firstBright(-1, 0) = throws IndexOutOfBoundsException",
                "firstBright(0, 301) = throws IllegalArgumentException",
                "firstBright(0, -1) = throws IllegalArgumentException",
                "firstBright(150, -1) = throws IndexOutOfBoundsException");
    }
}
