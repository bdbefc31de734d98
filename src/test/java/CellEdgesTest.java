/** The sentences of the section CELLS that name a boundary case, a test each. */
final class CellEdgesTest {
    public static void main(String[] arguments) {
        Runs runs = new Runs();
        vectors(runs);
        numbers(runs);
        neighbours(runs);
        runs.end();
    }

    private static void vectors(Runs runs) {
        runs.run("exactly one coordinate is -5 or 5: one of them, at each place and sign",
                "cellOf(-5, 0, 0) = 12; cellOf(5, 0, 0) = 137; cellOf(0, -5, 0) = 67",
                "cellOf(0, 5, 0) = 82; cellOf(0, 0, -5) = 74; cellOf(0, 0, 5) = 75");
        runs.run("exactly one coordinate is -5 or 5: none of them",
                "cellOf(0, 0, 0) = -9; cellOf(4, 4, 4) = -9; cellOf(-4, 4, -4) = -9",
                "cellOf(2, 0, -2) = -9");
        runs.run("exactly one coordinate is -5 or 5: two of them",
                "cellOf(5, 5, 0) = -9; cellOf(5, -5, 4) = -9; cellOf(0, 5, 5) = -9",
                "cellOf(-5, 2, 5) = -9");
        runs.run("exactly one coordinate is -5 or 5: all of them",
                "cellOf(5, 5, 5) = -9; cellOf(-5, -5, -5) = -9; cellOf(5, -5, 5) = -9");
        runs.run("each of the other two is -4, -2, 0, 2 or 4: each of these",
                "cellOf(-5, -4, 4) = 4; cellOf(-5, -2, 2) = 8; cellOf(-5, 0, -2) = 11",
                "cellOf(-5, 2, -4) = 15; cellOf(-5, 4, 0) = 22; cellOf(-5, 4, -2) = 21");
        runs.run("each of the other two is -4, -2, 0, 2 or 4: none between them",
                "cellOf(5, -3, 0) = -9; cellOf(5, -1, 0) = -9; cellOf(5, 1, 0) = -9",
                "cellOf(5, 3, 0) = -9; cellOf(5, 0, -3) = -9; cellOf(5, 0, -1) = -9",
                "cellOf(5, 0, 1) = -9; cellOf(5, 0, 3) = -9; cellOf(3, 5, 0) = -9",
                "cellOf(1, 0, 5) = -9; cellOf(0, 3, -5) = -9");
        runs.run("each of the other two is -4, -2, 0, 2 or 4: none beyond them",
                "cellOf(5, 6, 0) = -9; cellOf(5, -6, 0) = -9; cellOf(-5, 0, 6) = -9",
                "cellOf(6, 5, 0) = -9; cellOf(-6, 0, -5) = -9; cellOf(8, 5, 4) = -9");
        runs.run("a coordinate beyond the sphere",
                "cellOf(6, 0, 0) = -9; cellOf(-6, 0, 0) = -9; cellOf(0, 7, 0) = -9",
                "cellOf(0, 0, -7) = -9; cellOf(10, 0, 0) = -9");
        runs.run("3 any int",
                "cellOf(2147483647, 0, 0) = -9; cellOf(-2147483648, 0, 0) = -9",
                "cellOf(5, 2147483647, 4) = -9; cellOf(5, 4, -2147483648) = -9",
                "cellOf(-2147483648, -2147483648, 5) = -9; cellOf(2147483643, 4, 4) = -9",
                // 2 to the power of 32, less 5 and less 4, are -5 and -4 when cut to an int.
                "cellOf(-5, -4, -4) = 0; cellOf(65531, 65532, 65532) = -9; cellOf(251, 252, 252) = -9");
    }

    private static void numbers(Runs runs) {
        runs.run("numbered from 0: the first and the last of the 150 cells",
                "coordinate(0, 0) = -5; coordinate(0, 1) = -4; coordinate(0, 2) = -4",
                "coordinate(149, 0) = 5; coordinate(149, 1) = 4; coordinate(149, 2) = 4",
                "cellOf(-5, -4, -4) = 0; cellOf(5, 4, 4) = 149",
                "coordinate(-1, 0) = throws IndexOutOfBoundsException",
                "coordinate(150, 0) = throws IndexOutOfBoundsException");
        runs.run("in ascending order of x: where x grows",
                "cellOf(-5, 4, 4) = 24; cellOf(-4, -5, -4) = 25; cellOf(-4, 5, 4) = 44",
                "cellOf(-2, -5, -4) = 45; cellOf(-2, 5, 4) = 64; cellOf(0, -5, -4) = 65",
                "cellOf(0, 5, 4) = 84; cellOf(2, -5, -4) = 85; cellOf(2, 5, 4) = 104",
                "cellOf(4, -5, -4) = 105; cellOf(4, 5, 4) = 124; cellOf(5, -4, -4) = 125");
        runs.run("cells with the same x in ascending order of y: where y grows",
                "cellOf(-5, -4, 4) = 4; cellOf(-5, -2, -4) = 5; cellOf(-4, -5, 4) = 29",
                "cellOf(-4, -4, -5) = 30; cellOf(-4, 4, 5) = 39; cellOf(-4, 5, -4) = 40");
        runs.run("cells with the same x and y in ascending order of z",
                "cellOf(-5, -4, -4) = 0; cellOf(-5, -4, -2) = 1; cellOf(-5, -4, 0) = 2",
                "cellOf(-4, -4, -5) = 30; cellOf(-4, -4, 5) = 31; cellOf(-4, -2, -5) = 32",
                "cellOf(-4, 5, -4) = 40; cellOf(-4, 5, -2) = 41");
    }

    private static void neighbours(Runs runs) {
        runs.run("neighbours: a squared distance of 4, on a face",
                "neighbour(12, 0) = 7; neighbour(12, 1) = 11; neighbour(12, 2) = 13",
                "neighbour(12, 3) = 17; step(1) = 1; step(2) = 2; step(7) = 3; step(12) = 4",
                "step(17) = 5; step(16) = 6; step(11) = 7; step(12) = 8");
        runs.run("neighbours: a squared distance of 2, over an edge",
                "neighbour(0, 2) = 25; neighbour(0, 3) = 30; neighbour(1, 3) = 26",
                "step(25) = 1; step(30) = 2; step(0) = 3; step(1) = 4; step(26) = 5; step(1) = 6");
        runs.run("no neighbours: a squared distance of 6, over an edge",
                "step(26) = throws IllegalArgumentException",
                "step(32) = throws IllegalArgumentException; step(1) = 1",
                "step(25) = throws IllegalArgumentException",
                "step(27) = throws IllegalArgumentException");
        runs.run("no neighbours: a squared distance of 8, on a face",
                "step(6) = throws IllegalArgumentException; step(1) = 1",
                "step(5) = throws IllegalArgumentException",
                "step(7) = throws IllegalArgumentException");
        runs.run("two different cells: a cell is no neighbour of itself",
                "neighbour(0, 0) = 1; neighbour(149, 3) = 148; neighbour(75, 0) = 55",
                "neighbour(75, 1) = 73; neighbour(75, 2) = 77; neighbour(75, 3) = 95");
        runs.run("exactly four: at the corners of the cube, where three faces meet",
                "neighbour(0, 0) = 1; neighbour(0, 1) = 5; neighbour(0, 2) = 25; neighbour(0, 3) = 30",
                "neighbour(0, 4) = throws IllegalArgumentException",
                "neighbour(149, 0) = 119; neighbour(149, 1) = 124; neighbour(149, 2) = 144",
                "neighbour(149, 3) = 148; neighbour(149, 4) = throws IllegalArgumentException",
                "neighbour(24, 0) = 19; neighbour(24, 1) = 23; neighbour(24, 2) = 39",
                "neighbour(24, 3) = 44");
        runs.run("exactly four: at an edge of the cube",
                "neighbour(1, 0) = 0; neighbour(1, 1) = 2; neighbour(1, 2) = 6; neighbour(1, 3) = 26",
                "neighbour(26, 0) = 1; neighbour(26, 1) = 25; neighbour(26, 2) = 27",
                "neighbour(26, 3) = 46");
        runs.run("4 in ascending order: the index 0 is the smallest, 3 the greatest",
                "neighbour(30, 0) = 0; neighbour(30, 1) = 25; neighbour(30, 2) = 32",
                "neighbour(30, 3) = 50; neighbour(30, -1) = throws IllegalArgumentException",
                "neighbour(30, 4) = throws IllegalArgumentException");
    }
}
