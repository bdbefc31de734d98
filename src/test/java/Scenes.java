/** Calls that lead to a state, with the answers that are due; tests go on from there. */
final class Scenes {
    static final String NEW = "";

    /** The cell 8 at the clock 4; objects, two requests, two slots, fourteen remembered states. */
    static final String BUSY =
            "setAxis(0, -5, 20, 20) = 0; setDrift(0, 0, -3, -3) = 0; setCone(0, 90) = 10;"
            + "setAxis(1, 99, -98, 97) = 10; setDrift(1, -1, 1, -2) = 10; setCone(1, 85) = 22;"
            + "setDrift(2, 3, 2, 1) = 22; addRequest(12, 5, 7) = 0; save(0) = 0;"
            + "addRequest(2, 20, 99) = 1; step(1) = 1; step(2) = 2; addRequest(149, 1, 1) = 2;"
            + "slew(7) = 1; undo() = 12; removeRequest(2) = 2; step(3) = 3; save(1) = 3; step(8) = 4;";

    /** The same, closed. */
    static final String SHUT = BUSY + "close() = 4;";

    /** The cell 1 at the clock 200, open, with two requests. */
    static final String LATE =
            "addRequest(12, 5, 7) = 0; addRequest(2, 20, 99) = 1; save(0) = 0; step(1) = 1;"
            + "close() = 1; pass(100) = 101; pass(99) = 200; open() = 200;";

    /** The same, closed. */
    static final String LATE_SHUT = LATE + "close() = 200;";

    /** Four requests, at the cell 0 and the clock 0. */
    static final String FULL =
            "addRequest(0, 1, 1) = 0; addRequest(12, 20, 99) = 1; addRequest(149, 3, 4) = 2;"
            + "addRequest(24, 5, 6) = 3;";

    /** The cell 0 is bright at the time 5, and not at 4 or 6. */
    static final String FLASH =
            "setAxis(0, -50, 5, -85) = 0; setDrift(0, 0, -9, 9) = 0; setCone(0, 99) = 0;";

    /** The cell 1 alone is bright until the time 9; the cell 148, opposite to it, from 11 on. */
    static final String LEAVING =
            "setAxis(0, -50, -40, -20) = 0; setDrift(0, 5, 4, 2) = 0; setCone(0, 99) = 1;";

    /** The cell 12 alone is bright from the time 11 on; the cell 137, opposite to it, until 9. */
    static final String ARRIVING =
            "setAxis(0, 10, 0, 0) = 0; setDrift(0, -1, 0, 0) = 0; setCone(0, 95) = 1;";

    /** The half of the sphere around the cell 0 is bright from the time 6 on. */
    static final String NIGHTFALL =
            "setAxis(0, 5, 5, 5) = 0; setDrift(0, -1, -1, -1) = 0; setCone(0, 1) = 75;";

    /** At the time 10 all three directions are (0, 0, 0); at all others every cell is bright. */
    static final String DAY = "close() = 0;"
            + "setAxis(0, -20, 10, 10) = 0; setDrift(0, 2, -1, -1) = 0; setCone(0, 1) = 75;"
            + "setAxis(1, 10, -20, 10) = 75; setDrift(1, -1, 2, -1) = 75; setCone(1, 1) = 125;"
            + "setAxis(2, 10, 10, -20) = 125; setDrift(2, -1, -1, 2) = 125; setCone(2, 1) = 150;";

    private Scenes() {
    }
}
