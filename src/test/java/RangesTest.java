/**
 * Each argument of each call: the last values that are allowed on both sides, the first that are
 * not, and the ends of int. A refused call throws what the document names, and changes nothing.
 */
final class RangesTest {
    private static final String INDEX = "IndexOutOfBoundsException";
    private static final String ARGUMENT = "IllegalArgumentException";

    public static void main(String[] arguments) {
        Runs runs = new Runs();
        cells(runs);
        brightObjects(runs);
        actions(runs);
        requests(runs);
        plans(runs);
        slots(runs);
        runs.end();
    }

    /** The call has a ? where the argument stands. */
    private static void range(
            Runs runs, String title, String before, String call, int least, int most, String exception) {
        for (int allowed : new int[] {least, most}) {
            String exact = call.replace("?", "" + allowed);
            SlewPlanner planner = new SlewPlanner();
            Model model = new Model();
            runs.go(title, planner, before);
            runs.go(title, model, before);
            String got = Runs.answer(planner, exact);
            runs.same(title + ": " + exact, Runs.answer(model, exact), got);
            runs.same(title + ": " + exact + " is allowed", false, got.equals("throws " + exception));
        }
        none(runs, title, before, call, least, most, exception);
    }

    private static void none(
            Runs runs, String title, String before, String call, int least, int most, String exception) {
        for (int wrong : new int[] {least - 1, most + 1, Integer.MIN_VALUE, Integer.MAX_VALUE}) {
            runs.refused(title, before, call.replace("?", "" + wrong), exception);
        }
    }

    private static void cells(Runs runs) {
        String busy = Scenes.BUSY;
        range(runs, "2 the cell", busy, "coordinate(?, 2)", 0, 149, INDEX);
        range(runs, "2 the coordinate", busy, "coordinate(149, ?)", 0, 2, INDEX);
        range(runs, "4 the cell", busy, "neighbour(?, 3)", 0, 149, INDEX);
        range(runs, "4 k", busy, "neighbour(149, ?)", 0, 3, ARGUMENT);
    }

    private static void brightObjects(Runs runs) {
        String busy = Scenes.BUSY;
        range(runs, "5 the object", busy, "direction(?, 2, 300)", 0, 2, INDEX);
        range(runs, "5 the coordinate", busy, "direction(2, ?, 300)", 0, 2, INDEX);
        range(runs, "5 the time", busy, "direction(1, 2, ?)", 0, 300, ARGUMENT);
        range(runs, "6 the object", busy, "cone(?)", 0, 2, INDEX);
        range(runs, "7 the cell", busy, "cosine(?, 2, 300)", 0, 149, INDEX);
        range(runs, "7 the object", busy, "cosine(149, ?, 300)", 0, 2, INDEX);
        range(runs, "7 the time", busy, "cosine(149, 1, ?)", 0, 300, ARGUMENT);
        range(runs, "8 the cell", busy, "isBright(?, 300)", 0, 149, INDEX);
        range(runs, "8 the time", busy, "isBright(149, ?)", 0, 300, ARGUMENT);
        range(runs, "9 the time", busy, "brightCells(?)", 0, 300, ARGUMENT);
        range(runs, "10 the cell", busy, "firstBright(?, 0)", 0, 149, INDEX);
        range(runs, "10 from", busy, "firstBright(149, ?)", 0, 300, ARGUMENT);
    }

    private static void actions(Runs runs) {
        for (String before : new String[] {Scenes.BUSY, Scenes.SHUT}) {
            range(runs, "15 the object", before, "setAxis(?, 1, 1, 1)", 0, 2, INDEX);
            range(runs, "15 x", before, "setAxis(2, ?, 0, 0)", -99, 99, ARGUMENT);
            range(runs, "15 y", before, "setAxis(2, 0, ?, 0)", -99, 99, ARGUMENT);
            range(runs, "15 z", before, "setAxis(2, 0, 0, ?)", -99, 99, ARGUMENT);
            range(runs, "16 the object", before, "setDrift(?, 1, 1, 1)", 0, 2, INDEX);
            range(runs, "16 x", before, "setDrift(2, ?, 0, 0)", -9, 9, ARGUMENT);
            range(runs, "16 y", before, "setDrift(2, 0, ?, 0)", -9, 9, ARGUMENT);
            range(runs, "16 z", before, "setDrift(2, 0, 0, ?)", -9, 9, ARGUMENT);
            range(runs, "17 the object", before, "setCone(?, 95)", 0, 2, INDEX);
            range(runs, "17 c", before, "setCone(2, ?)", 0, 99, ARGUMENT);
            range(runs, "18 the cell", before, "step(?)", 0, 149, INDEX);
            range(runs, "19 the cell", before, "slew(?)", 0, 149, INDEX);
            range(runs, "22 n", before, "pass(?)", 1, 100, ARGUMENT);
        }
    }

    private static void requests(Runs runs) {
        for (String before : new String[] {Scenes.BUSY, Scenes.SHUT, Scenes.FULL}) {
            range(runs, "23 the cell", before, "addRequest(?, 1, 1)", 0, 149, INDEX);
            range(runs, "23 the exposure", before, "addRequest(149, ?, 99)", 1, 20, ARGUMENT);
            range(runs, "23 the value", before, "addRequest(0, 20, ?)", 1, 99, ARGUMENT);
        }
        String one = "addRequest(7, 8, 9) = 0;";
        String oneAgain = "addRequest(7, 8, 9) = 0; addRequest(1, 1, 1) = 1; removeRequest(0) = 1;";
        for (String call : new String[] {"removeRequest(?)", "requestFinish(?)"}) {
            none(runs, "24 and 31 no request", Scenes.NEW, call, 0, -1, INDEX);
            none(runs, "24 and 31 none any more", one + "removeRequest(0) = 0;", call, 0, -1, INDEX);
            none(runs, "24 and 31 none, as the action was undone", one + "undo() = 0;", call, 0, -1,
                    INDEX);
            range(runs, "24 and 31 one request", one, call, 0, 0, INDEX);
            range(runs, "24 and 31 one of two is left", oneAgain, call, 0, 0, INDEX);
            range(runs, "24 and 31 two requests", Scenes.BUSY, call, 0, 1, INDEX);
            range(runs, "24 and 31 four requests", Scenes.FULL, call, 0, 3, INDEX);
        }
        range(runs, "24 two requests, closed", Scenes.SHUT, "removeRequest(?)", 0, 1, INDEX);
        range(runs, "31 two requests, closed", Scenes.SHUT, "requestFinish(?)", 0, 1, INDEX);
    }

    private static void plans(Runs runs) {
        for (String before : new String[] {Scenes.BUSY, Scenes.SHUT, Scenes.LATE}) {
            range(runs, "26 the cell", before, "arrival(?)", 0, 149, INDEX);
            range(runs, "27 the cell", before, "planCell(?, 60)", 0, 149, INDEX);
            range(runs, "27 i", before, "planCell(149, ?)", 0, 60, ARGUMENT);
            range(runs, "28 k", before, "reachableCells(?)", 0, 60, ARGUMENT);
            range(runs, "29 k", before, "parkingCell(?)", 0, 40, ARGUMENT);
            range(runs, "30 k", before, "parkingSteps(?)", 0, 40, ARGUMENT);
            range(runs, "34 m", before, "randomWalk(-7, ?)", 1, 60, ARGUMENT);
        }
    }

    private static void slots(Runs runs) {
        for (String before : new String[] {Scenes.NEW, Scenes.BUSY, Scenes.SHUT}) {
            range(runs, "35 the slot", before, "save(?)", 0, 1, INDEX);
            range(runs, "36 the slot", before, "restore(?)", 0, 1, INDEX);
        }
    }
}
