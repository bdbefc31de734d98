import java.util.ArrayList;
import java.util.List;

/** Promises 1 to 4: a new object, coordinate, cellOf, neighbour. */
final class CellsTest {
    private static final int[] WILD = {
        -1, -2, 3, 4, 150, 151, 1000, Integer.MIN_VALUE, Integer.MIN_VALUE / 3,
        Integer.MAX_VALUE, Integer.MAX_VALUE / 3, Integer.MAX_VALUE / 4 + 1};

    public static void main(String[] arguments) {
        Runs runs = new Runs();
        newObject(runs);
        runs.run("2 coordinate",
                "coordinate(0, 0) = -5; coordinate(0, 1) = -4; coordinate(0, 2) = -4",
                "coordinate(24, 0) = -5; coordinate(24, 1) = 4; coordinate(24, 2) = 4",
                "coordinate(25, 0) = -4; coordinate(25, 1) = -5; coordinate(25, 2) = -4",
                "coordinate(149, 0) = 5; coordinate(149, 1) = 4; coordinate(149, 2) = 4",
                "coordinate(-1, 0) = throws IndexOutOfBoundsException",
                "coordinate(150, 2) = throws IndexOutOfBoundsException",
                "coordinate(7, -1) = throws IndexOutOfBoundsException",
                "coordinate(7, 3) = throws IndexOutOfBoundsException");
        runs.run("3 cellOf",
                "cellOf(-5, -4, -4) = 0; cellOf(5, 4, 4) = 149; cellOf(-5, 0, 0) = 12",
                "cellOf(0, -5, 0) = 67; cellOf(0, 0, 5) = 75; cellOf(5, 5, 0) = -9",
                "cellOf(5, 1, 0) = -9; cellOf(0, 0, 0) = -9; cellOf(4, 4, 4) = -9",
                "cellOf(6, 0, 0) = -9; cellOf(5, 0, 6) = -9; cellOf(-5, -6, 0) = -9",
                "cellOf(-2147483648, 0, 0) = -9; cellOf(5, 2147483646, 0) = -9",
                "cellOf(5, -2147483648, -2147483648) = -9");
        runs.run("4 neighbour",
                "neighbour(0, 0) = 1; neighbour(0, 1) = 5; neighbour(0, 2) = 25; neighbour(0, 3) = 30",
                "neighbour(12, 0) = 7; neighbour(12, 1) = 11; neighbour(12, 2) = 13",
                "neighbour(12, 3) = 17; neighbour(24, 3) = 44",
                "neighbour(0, 4) = throws IllegalArgumentException",
                "neighbour(149, -1) = throws IllegalArgumentException",
                "neighbour(150, 0) = throws IndexOutOfBoundsException",
                "neighbour(-1, 4) = throws IndexOutOfBoundsException");
        allCells(runs);
        allVectors(runs);
        allNeighbours(runs);
        wild(runs);
        runs.end();
    }

    private static void newObject(Runs runs) {
        runs.run("1 a new object",
                "clock() = 0; position() = 0; isClosed() = false; requestCount() = 0",
                "cone(0) = 0; cone(1) = 0; cone(2) = 0",
                "direction(0, 0, 0) = 1; direction(0, 1, 300) = 0; direction(0, 2, 0) = 0",
                "direction(1, 0, 300) = 0; direction(1, 1, 300) = 1; direction(1, 2, 0) = 0",
                "direction(2, 0, 0) = 0; direction(2, 1, 300) = 0; direction(2, 2, 300) = 1",
                "brightCells(0) = 0; brightCells(300) = 0; firstBright(0, 0) = -9",
                "bestValue() = 0; bestOrder() = 0; undo() = throws IllegalStateException",
                "restore(0) = throws IllegalStateException",
                "restore(1) = throws IllegalStateException");
        runs.same("NONE", -9, SlewPlanner.NONE);
        SlewPlanner one = new SlewPlanner();
        SlewPlanner other = new SlewPlanner();
        runs.go("1 two objects, the one", one,
                "step(1) = 1; setAxis(0, 5, 4, 4) = 0; setCone(0, 90) = 10; addRequest(3, 3, 3) = 0",
                "save(0) = 1; close() = 1");
        runs.go("1 two objects, the other", other,
                "clock() = 0; position() = 0; cone(0) = 0; direction(0, 0, 0) = 1",
                "requestCount() = 0; isClosed() = false; brightCells(0) = 0",
                "restore(0) = throws IllegalStateException; undo() = throws IllegalStateException");
    }

    private static void allCells(Runs runs) {
        long before = Long.MIN_VALUE;
        for (int cell = 0; cell < 150; cell++) {
            SlewPlanner planner = new SlewPlanner();
            int x = planner.coordinate(cell, 0);
            int y = planner.coordinate(cell, 1);
            int z = planner.coordinate(cell, 2);
            runs.same("2 a cell's vector " + cell, true, isCell(x, y, z));
            runs.same("3 cellOf " + cell, cell, planner.cellOf(x, y, z));
            long key = (x * 100L + y) * 100L + z;
            runs.same("2 the order at " + cell, true, key > before);
            before = key;
        }
    }

    private static void allVectors(Runs runs) {
        int cells = 0;
        for (int x = -7; x <= 7; x++) {
            SlewPlanner planner = new SlewPlanner();
            for (int y = -7; y <= 7; y++) {
                for (int z = -7; z <= 7; z++) {
                    int due = isCell(x, y, z) ? cells++ : -9;
                    runs.same("3 cellOf " + x + " " + y + " " + z, due, planner.cellOf(x, y, z));
                }
            }
        }
        runs.same("3 the number of cells", 150, cells);
    }

    private static boolean isCell(int x, int y, int z) {
        return face(x) && inner(y) && inner(z) || face(y) && inner(x) && inner(z)
                || face(z) && inner(x) && inner(y);
    }

    private static boolean face(int c) {
        return c == 5 || c == -5;
    }

    private static boolean inner(int c) {
        return c == -4 || c == -2 || c == 0 || c == 2 || c == 4;
    }

    private static void allNeighbours(Runs runs) {
        List<int[]> vectors = new ArrayList<>();
        for (int cell = 0; cell < 150; cell++) {
            SlewPlanner planner = new SlewPlanner();
            vectors.add(new int[] {
                planner.coordinate(cell, 0), planner.coordinate(cell, 1), planner.coordinate(cell, 2)});
        }
        for (int cell = 0; cell < 150; cell++) {
            SlewPlanner planner = new SlewPlanner();
            int k = 0;
            for (int other = 0; other < 150; other++) {
                if (other != cell && distance(vectors.get(cell), vectors.get(other)) <= 4) {
                    runs.same("4 neighbour " + cell + " " + k, other, planner.neighbour(cell, k));
                    k++;
                }
            }
            runs.same("4 the number of neighbours of " + cell, 4, k);
        }
    }

    private static int distance(int[] one, int[] other) {
        int distance = 0;
        for (int c = 0; c < 3; c++) {
            distance += (one[c] - other[c]) * (one[c] - other[c]);
        }
        return distance;
    }

    private static void wild(Runs runs) {
        for (int i : WILD) {
            String cell = i == 3 || i == 4 ? "-3" : "" + i;
            runs.run("wrong cells and indexes",
                    "coordinate(" + cell + ", 0) = throws IndexOutOfBoundsException",
                    "coordinate(0, " + i + ") = throws IndexOutOfBoundsException",
                    "neighbour(" + cell + ", 0) = throws IndexOutOfBoundsException",
                    "neighbour(" + cell + ", " + i + ") = throws IndexOutOfBoundsException",
                    "neighbour(0, " + (i == 3 ? 4 : i) + ") = throws IllegalArgumentException");
        }
    }
}
