import java.lang.management.ManagementFactory;

/** All calls of one run live in one room: an object is small, and its calls make next to nothing. */
final class RoomTest {
    /** What a planner may take when it is made, and what all of its 512 calls may; in bytes. */
    private static final long MADE = 64 * 1024;
    private static final long CALLS = 64 * 1024;

    public static void main(String[] arguments) {
        Runs runs = new Runs();
        new SlewPlanner().arrival(149);
        taken();
        long before = taken();
        SlewPlanner planner = new SlewPlanner();
        runs.same("the room of a planner", true, taken() - before <= MADE);

        planner.setAxis(0, -5, 20, 20);
        planner.setDrift(0, 0, -3, -3);
        planner.setCone(0, 60);
        for (int i = 0; i < 4; i++) {
            planner.addRequest(30 * i + 11, 9 + i, 5);
        }
        before = taken();
        for (int i = 0; i < 31; i++) {
            calls(planner, i);
        }
        long room = taken() - before;
        runs.same("the room of 496 calls, " + room, true, room <= CALLS);
        runs.end();
    }

    /** Sixteen calls. */
    private static void calls(SlewPlanner planner, int i) {
        planner.setAxis(1, 5, i, 3);
        planner.setCone(1, 99 - i);
        planner.save(i % 2);
        planner.bestOrder();
        planner.bestValue();
        planner.planCell(149, 5);
        planner.reachableCells(60);
        planner.parkingCell(40);
        planner.parkingSteps(40);
        planner.requestFinish(i % 4);
        planner.randomWalk(i, 60);
        planner.firstBright(i, 0);
        planner.cosine(i, 0, i);
        planner.slew(planner.position());
        planner.undo();
        planner.restore(i % 2);
    }

    private static long taken() {
        return ((com.sun.management.ThreadMXBean) ManagementFactory.getThreadMXBean())
                .getThreadAllocatedBytes(Thread.currentThread().getId());
    }
}
