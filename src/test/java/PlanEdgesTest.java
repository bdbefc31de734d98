/** The sentences of the section PLANS that name a boundary case, a test each. */
final class PlanEdgesTest {
    /** The cell 12 alone is bright until the time 59. */
    private static final String UNTIL_59 =
            "setAxis(0, -60, 0, 0) = 0; setDrift(0, 1, 0, 0) = 0; setCone(0, 95) = 1;";
    /** The same, until 60. */
    private static final String UNTIL_60 =
            "setAxis(0, -61, 0, 0) = 0; setDrift(0, 1, 0, 0) = 0; setCone(0, 95) = 1;";

    public static void main(String[] arguments) {
        Runs runs = new Runs();
        sixtySteps(runs);
        beyondTheClock(runs);
        smallestNumber(runs);
        smallestPlan(runs);
        exactlySoMany(runs);
        parkingTimes(runs);
        parkingBeyondTheClock(runs);
        bestParking(runs);
        walks(runs);
        runs.end();
    }

    private static void sixtySteps(Runs runs) {
        runs.run("a plan has at most 60 steps: 60", UNTIL_59,
                "isBright(12, 59) = true; isBright(12, 60) = false; arrival(12) = 60",
                "planCell(12, 60) = 12; planCell(12, 59) = 7; reachableCells(59) = 149",
                "reachableCells(60) = 150; slew(12) = 60; clock() = 60; position() = 12");
        runs.run("a plan has at most 60 steps: 61 are too many", UNTIL_60,
                "isBright(12, 60) = true; isBright(12, 61) = false; arrival(12) = -9",
                "planCell(12, 0) = -9; planCell(12, 60) = -9; reachableCells(60) = 149",
                "slew(12) = throws IllegalStateException; clock() = 0; position() = 0; undo() = 2");
        runs.run("a plan has at most 60 steps: 61, after one step", UNTIL_60,
                "step(0) = 1; arrival(12) = 60; slew(12) = 60; clock() = 61");
        runs.run("27 the index of a step, 0 to 60", UNTIL_59,
                "planCell(12, 0) = 0; planCell(12, 60) = 12",
                "planCell(12, -1) = throws IllegalArgumentException",
                "planCell(12, 61) = throws IllegalArgumentException");
        runs.run("27 none if it is greater than the arrival",
                "planCell(12, 4) = 12; planCell(12, 5) = -9; planCell(0, 0) = 0; planCell(0, 1) = -9",
                "planCell(149, 14) = 149; planCell(149, 15) = -9; planCell(149, 60) = -9");
    }

    private static void beyondTheClock(Runs runs) {
        runs.run("for plans the clock is not limited to 200", Scenes.LATE,
                "arrival(149) = 13; planCell(149, 13) = 149; planCell(149, 14) = -9",
                "reachableCells(1) = 5; reachableCells(60) = 150; arrival(1) = 0; arrival(0) = 1",
                "slew(0) = throws IllegalStateException");
        runs.run("for plans the clock is not limited to 200: the cell 6 is dark from 260 on",
                Scenes.LATE, "setAxis(0, -83, 82, 66) = 0; setDrift(0, -1, -1, -1) = 0",
                "setCone(0, 99) = 1; isBright(6, 259) = true; isBright(6, 260) = false",
                "arrival(6) = 60; planCell(6, 1) = 0; planCell(6, 58) = 0; planCell(6, 59) = 1",
                "planCell(6, 60) = 6");
        runs.run("for plans the clock is not limited to 200: the cell 6 is dark from 261 on",
                Scenes.LATE, "setAxis(0, -95, 87, -94) = 0; setDrift(0, -1, -1, 0) = 0",
                "setCone(0, 99) = 1; isBright(6, 260) = true; isBright(6, 261) = false",
                "arrival(6) = -9; planCell(6, 60) = -9");
    }

    private static void smallestNumber(Runs runs) {
        runs.run("26 0 for the position, 1 for its neighbours, 14 for the cell that is opposite",
                "arrival(0) = 0; arrival(1) = 1; arrival(5) = 1; arrival(25) = 1; arrival(30) = 1",
                "arrival(6) = 2; arrival(26) = 2; arrival(149) = 14; arrival(148) = 13");
        runs.run("the smallest number of steps: the cell 1 is bright until the time 9", Scenes.LEAVING,
                "arrival(0) = 0; arrival(1) = 10; arrival(2) = 4; arrival(6) = 2; step(0) = 1",
                "arrival(1) = 9; arrival(0) = 0");
        runs.run("the smallest number of steps: a cell that will be bright", Scenes.ARRIVING,
                "isBright(12, 10) = false; isBright(12, 11) = true; arrival(12) = 4",
                "step(0) = 1; step(0) = 2; step(0) = 3; step(0) = 4; step(0) = 5; step(0) = 6",
                "arrival(12) = 4; slew(12) = 4; clock() = 10; arrival(12) = 0");
        runs.run("the smallest number of steps: one step too late", Scenes.ARRIVING,
                "step(0) = 1; step(0) = 2; step(0) = 3; step(0) = 4; step(0) = 5; step(0) = 6",
                "step(0) = 7; arrival(12) = -9; slew(12) = throws IllegalStateException",
                "arrival(11) = 3; slew(11) = 3; clock() = 10; arrival(12) = -9");
    }

    private static void smallestPlan(Runs runs) {
        runs.run("the lexicographically smallest: the first step counts first",
                "planCell(6, 1) = 1; planCell(24, 1) = 1; planCell(24, 4) = 4; planCell(24, 5) = 9",
                "planCell(24, 8) = 24; slew(12) = 4; planCell(0, 1) = 7; planCell(0, 2) = 2");
        runs.run("the lexicographically smallest: the second one, if the first is bright",
                Scenes.LEAVING, "arrival(6) = 2; planCell(6, 1) = 5; planCell(6, 2) = 6");
        runs.run("the lexicographically smallest: to stay, where the position is the smallest",
                Scenes.LEAVING, "planCell(1, 0) = 0; planCell(1, 1) = 0; planCell(1, 9) = 0",
                "planCell(1, 10) = 1; planCell(1, 11) = -9");
        runs.run("the lexicographically smallest: to go and wait, where a neighbour is smaller",
                // The cell 13 alone is bright, until the time 7.
                "setAxis(0, -40, 0, 16) = 0; setDrift(0, 5, 0, -2) = 0; setCone(0, 97) = 1",
                "slew(12) = 4; arrival(13) = 4; planCell(13, 0) = 12; planCell(13, 1) = 7",
                "planCell(13, 2) = 7; planCell(13, 3) = 8; planCell(13, 4) = 13");
        runs.run("the lexicographically smallest: only what the step before leads to",
                // At the clock 9: 18 is bright until 12, 7 always, and 12 from 11 on.
                "slew(12) = 4; step(12) = 5; step(12) = 6; step(12) = 7; step(12) = 8; step(12) = 9",
                "setAxis(0, -65, 26, 26) = 0; setDrift(0, 5, -2, -2) = 0; setCone(0, 97) = 1",
                "setAxis(1, -5, -2, 0) = 1; setCone(1, 97) = 2; setAxis(2, 10, 0, 0) = 2",
                "setDrift(2, -1, 0, 0) = 2; setCone(2, 95) = 3; arrival(18) = 4",
                "planCell(18, 0) = 12; planCell(18, 1) = 11; planCell(18, 2) = 16",
                "planCell(18, 3) = 17; planCell(18, 4) = 18");
        runs.run("a plan with that number of steps, not a smaller one that is longer",
                "slew(12) = 4; planCell(13, 1) = 13; planCell(17, 1) = 17; planCell(17, 2) = -9");
        runs.run("27 one plan after another",
                "planCell(12, 4) = 12; planCell(20, 4) = 20; planCell(12, 1) = 1; planCell(20, 1) = 5",
                "planCell(4, 2) = 2; planCell(20, 2) = 10; planCell(12, 2) = 2; planCell(4, 4) = 4");
    }

    private static void exactlySoMany(Runs runs) {
        runs.run("28 none, one and two steps",
                "reachableCells(0) = 1; reachableCells(1) = 5; reachableCells(2) = 12");
        runs.run("28 exactly k steps: the cell 0 can not be the end at the time 5",
                "reachableCells(4) = 35; reachableCells(5) = 51; reachableCells(6) = 67",
                Scenes.FLASH, "reachableCells(5) = 50; step(0) = 1; reachableCells(4) = 34",
                "reachableCells(5) = 51");
        runs.run("28 exactly k steps: a cell that was left in time, and is bright", Scenes.NIGHTFALL,
                "reachableCells(0) = 1; reachableCells(5) = 51; reachableCells(6) = 0",
                "reachableCells(7) = 0; reachableCells(60) = 0; arrival(0) = 0");
    }

    private static void parkingTimes(Runs runs) {
        // The cell 0 is bright at the time 5 alone.
        runs.run("dark from the clock plus s to the clock plus s + k: until 4", Scenes.FLASH,
                "parkingSteps(0) = 0; parkingCell(0) = 0; parkingSteps(4) = 0; parkingCell(4) = 0");
        runs.run("dark from the clock plus s to the clock plus s + k: until 5", Scenes.FLASH,
                "parkingSteps(5) = 1; parkingCell(5) = 1; parkingSteps(40) = 1; parkingCell(40) = 1");
        runs.run("dark from the clock plus s to the clock plus s + k: the clock", Scenes.FLASH,
                "step(0) = 1; parkingSteps(3) = 0; parkingSteps(4) = 1; step(0) = 2",
                "parkingSteps(2) = 0; parkingSteps(3) = 1; step(0) = 3; step(0) = 4",
                "parkingSteps(0) = 0; parkingSteps(1) = 1; step(1) = 5; step(0) = 6",
                "parkingSteps(40) = 0; parkingCell(40) = 0");
        runs.run("29 and 30 how long, 0 to 40",
                "parkingCell(0) = 0; parkingCell(40) = 0; parkingSteps(0) = 0; parkingSteps(40) = 0",
                "parkingCell(-1) = throws IllegalArgumentException",
                "parkingCell(41) = throws IllegalArgumentException",
                "parkingSteps(-1) = throws IllegalArgumentException",
                "parkingSteps(41) = throws IllegalArgumentException");
        runs.run("29 and 30 none: the time at which all is bright", Scenes.NIGHTFALL,
                "parkingSteps(5) = 0; parkingCell(5) = 0; parkingSteps(6) = -9; parkingCell(6) = -9",
                "step(0) = 1; parkingSteps(4) = 0; parkingSteps(5) = -9");
    }

    private static void parkingBeyondTheClock(Runs runs) {
        runs.run("at the clock 200, the position is bright from 241 on", Scenes.LATE,
                "setAxis(0, 7, 94, -60) = 0; setDrift(0, -1, -1, 0) = 0; setCone(0, 99) = 0",
                "firstBright(1, 200) = 241; parkingSteps(40) = 0; parkingCell(40) = 1");
        runs.run("at the clock 200, the position is bright from 240 on", Scenes.LATE,
                "setAxis(0, -73, -64, -94) = 0; setDrift(0, -2, -2, -1) = 0; setCone(0, 99) = 0",
                "firstBright(1, 200) = 240; parkingSteps(39) = 0; parkingSteps(40) = 1",
                "parkingCell(39) = 1; parkingCell(40) = 0");
        runs.run("the clock 200, 60 steps and 40 more: the cell 5 is dark until 300",
                "slew(4) = 4; close() = 4; pass(100) = 104; pass(96) = 200",
                "setAxis(0, 99, 32, 8) = 0; setDrift(0, 0, -1, 0) = 0; setCone(0, 21) = 58",
                "setAxis(1, 30, -97, -42) = 58; setDrift(1, -8, 3, 1) = 58; setCone(1, 55) = 94",
                "setAxis(2, -38, -28, -68) = 94; setDrift(2, 5, 3, 3) = 94; setCone(2, 1) = 133",
                "open() = 200; firstBright(4, 200) = 239; firstBright(5, 260) = -9",
                "parkingSteps(40) = 60; parkingCell(40) = 5; parkingSteps(38) = 0");
        runs.run("the clock 200, 60 steps and 40 more: the cell 134 is bright at the time 300",
                "slew(131) = 8; close() = 8; pass(100) = 108; pass(92) = 200",
                "setAxis(0, 16, -89, 83) = 0; setDrift(0, -1, -3, 0) = 0; setCone(0, 14) = 67",
                "setAxis(1, -99, 30, -21) = 67; setDrift(1, 1, 1, 0) = 67; setCone(1, 10) = 133",
                "setAxis(2, 95, 6, 49) = 133; setDrift(2, -3, -4, -4) = 133; setCone(2, 22) = 142",
                "open() = 200; firstBright(134, 260) = 300; parkingSteps(39) = 60",
                "parkingCell(39) = 134; parkingSteps(40) = -9; parkingCell(40) = -9");
    }

    private static void bestParking(Runs runs) {
        runs.run("the smallest number among several", Scenes.FLASH,
                "parkingCell(5) = 1; setAxis(1, -5, -4, -2) = 0; setCone(1, 99) = 1",
                "parkingCell(5) = 5; parkingSteps(5) = 1; setAxis(2, -5, -2, -4) = 1",
                "setCone(2, 99) = 2; parkingCell(5) = 25; parkingSteps(5) = 1");
        runs.run("the smallest s before the smallest number",
                "slew(149) = 14; parkingCell(40) = 149; parkingSteps(40) = 0",
                // The cell 149 alone is bright, from the time 20 on.
                "setAxis(0, -95, -76, -76) = 0; setDrift(0, 5, 4, 4) = 0; setCone(0, 99) = 1",
                "firstBright(149, 0) = 20; parkingSteps(5) = 0; parkingCell(5) = 149",
                "parkingSteps(6) = 1; parkingCell(6) = 119");
    }

    private static void walks(Runs runs) {
        runs.run("34 1 to 60 steps", "randomWalk(5, 1) = 25; randomWalk(5, 60) = 7",
                "randomWalk(5, 0) = throws IllegalArgumentException",
                "randomWalk(5, 61) = throws IllegalArgumentException");
        runs.run("34 any long",
                "randomWalk(0, 1) = 25; randomWalk(-1, 1) = 30; randomWalk(9223372036854775807, 1) = 0",
                "randomWalk(-9223372036854775808, 1) = 5");
        runs.run("34 the clock of the copy is not limited to 200", Scenes.LATE,
                "randomWalk(5, 60) = 7; clock() = 200; position() = 1");
        runs.run("34 the walk ends where both are bright, though they are dark again later",
                "setAxis(0, -10, 99, 99) = 0; setDrift(0, 0, -9, -9) = 0; setCone(0, 80) = 16",
                "randomWalk(5, 11) = 1; randomWalk(5, 12) = 1; randomWalk(5, 60) = 1",
                "isBright(1, 12) = true; isBright(1, 60) = false; randomWalk(4, 60) = 5",
                "randomWalk(7, 60) = 26; randomWalk(11, 60) = 22; randomWalk(18, 60) = 7");
        runs.run("34 where all is bright from the next time on, the walk ends at once", Scenes.DAY,
                "pass(10) = 10; open() = 10; randomWalk(0, 1) = 0; randomWalk(7, 60) = 0");
    }
}
