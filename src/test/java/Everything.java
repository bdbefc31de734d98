import java.util.ArrayList;
import java.util.List;

/** All that can be asked of a planner, and of the states that it remembers and saves, in one text. */
final class Everything {
    private static final String[] STATE = {
        "clock()", "position()", "isClosed()", "requestCount()", "cone(0)", "cone(1)", "cone(2)",
        "direction(0, 0, 1)", "direction(0, 1, 1)", "direction(0, 2, 1)", "direction(1, 0, 1)",
        "direction(1, 1, 1)", "direction(1, 2, 1)", "direction(2, 0, 1)", "direction(2, 1, 1)",
        "direction(2, 2, 1)", "requestFinish(0)", "requestFinish(1)", "requestFinish(2)",
        "requestFinish(3)", "bestValue()"};
    private static final String[] MORE = {
        "direction(0, 0, 0)", "direction(0, 1, 0)", "direction(0, 2, 0)", "direction(1, 0, 0)",
        "direction(1, 1, 0)", "direction(1, 2, 0)", "direction(2, 0, 0)", "direction(2, 1, 0)",
        "direction(2, 2, 0)", "brightCells(0)", "brightCells(7)", "brightCells(300)",
        "firstBright(0, 0)", "bestOrder()", "arrival(149)", "planCell(149, 7)",
        "reachableCells(5)", "parkingCell(20)", "parkingSteps(40)", "randomWalk(1, 60)"};

    /** Asks all this. The planner is of no use behind it: its states are taken back one by one. */
    static String of(SlewPlanner planner) {
        List<String> told = new ArrayList<>();
        ask(planner, told, MORE);
        ask(planner, told, STATE);
        String undone = "";
        for (int i = 0; i < 20 && !undone.startsWith("throws"); i++) {
            undone = Runs.answer(planner, "undo()");
            told.add("undo() = " + undone);
            if (!undone.startsWith("throws")) {
                ask(planner, told, STATE);
            }
        }
        for (int slot = 0; slot < 2; slot++) {
            ask(planner, told, "restore(" + slot + ")");
            ask(planner, told, STATE);
        }
        return String.join("; ", told);
    }

    private static void ask(SlewPlanner planner, List<String> told, String... calls) {
        for (String call : calls) {
            told.add(call + " = " + Runs.answer(planner, call));
        }
    }
}
