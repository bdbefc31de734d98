/** Promises 35 and 36: save and restore. */
final class SlotsTest {
    public static void main(String[] arguments) {
        Runs runs = new Runs();
        runs.run("35 and 36 wrong slots",
                "save(2) = throws IndexOutOfBoundsException; save(-1) = throws IndexOutOfBoundsException",
                "restore(2) = throws IndexOutOfBoundsException",
                "restore(-1) = throws IndexOutOfBoundsException",
                "restore(2147483647) = throws IndexOutOfBoundsException",
                "save(-2147483648) = throws IndexOutOfBoundsException",
                "restore(0) = throws IllegalStateException; restore(1) = throws IllegalStateException");
        runs.run("35 and 36 two slots",
                "step(1) = 1; save(1) = 1; restore(0) = throws IllegalStateException; undo() = 0",
                "step(5) = 1; step(6) = 2; save(0) = 2; restore(1) = 1; position() = 1; clock() = 1",
                "undo() = throws IllegalStateException; restore(0) = 2; position() = 6",
                "restore(1) = 1; position() = 1; step(2) = 2; undo() = 0; position() = 1");
        runs.run("35 a slot is written anew",
                "save(0) = 0; step(1) = 1; save(0) = 1; step(2) = 2; restore(0) = 1; position() = 1",
                "restore(0) = 1; position() = 1");
        runs.run("36 a restore forgets, a failed one does not",
                "step(1) = 1; step(1) = 2; restore(1) = throws IllegalStateException",
                "restore(2) = throws IndexOutOfBoundsException; undo() = 1; save(0) = 1",
                "restore(0) = 1; clock() = 1; undo() = throws IllegalStateException; clock() = 1");
        runs.run("36 all of the state, which later actions leave in the slot",
                "setAxis(1, 5, 4, 4) = 0; setDrift(1, 0, 1, 0) = 0; setCone(1, 90) = 10",
                "addRequest(7, 8, 9) = 0; slew(2) = 2; close() = 2; save(1) = 2; pass(50) = 52",
                "setAxis(1, 1, 1, 1) = 5; setDrift(1, 0, 0, 0) = 12; setCone(1, 0) = 0; open() = 52",
                "removeRequest(0) = 0; slew(0) = 2; restore(1) = 2; clock() = 2; position() = 2",
                "isClosed() = true; requestCount() = 1; cone(1) = 90; direction(1, 0, 0) = 5",
                "direction(1, 1, 10) = 14; brightCells(0) = 10; open() = 2; requestFinish(0) = 11",
                "bestValue() = 9; undo() = 0; restore(1) = 2; isClosed() = true; requestCount() = 1");
        runs.run("36 a state of another time",
                "save(0) = 0; close() = 0; pass(100) = 100; save(1) = 100; restore(0) = 0",
                "isClosed() = false; arrival(149) = 14; restore(1) = 100; isClosed() = true",
                "arrival(149) = throws IllegalStateException");
        runs.run("35 the slots are not part of the state",
                "step(1) = 1; save(0) = 1; undo() = 0; position() = 0; restore(0) = 1; position() = 1");
        runs.end();
    }
}
