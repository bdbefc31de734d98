import java.util.ArrayList;
import java.util.Collections;
import java.util.List;
import java.util.TreeMap;
import java.util.TreeSet;

/**
 * The document once more, in its plainest form and without a thought of speed, as the judge of
 * SlewPlanner in ModelTest. It has the same methods and shares nothing with SlewPlanner.
 */
public final class Model {
    static final int NONE = -9;

    record Cell(int x, int y, int z) {}

    record Request(int cell, int exposure, int value) {}

    record State(List<List<Integer>> axes, List<List<Integer>> drifts, List<Integer> cones,
            int clock, int position, boolean closed, List<Request> requests) {
        State with(int newClock, int newPosition, boolean newClosed) {
            return new State(axes, drifts, cones, newClock, newPosition, newClosed, requests);
        }

        State with(List<Request> newRequests) {
            return new State(axes, drifts, cones, clock, position, closed, newRequests);
        }
    }

    private static final List<Cell> CELLS = listCells();
    private static final List<List<Integer>> NEIGHBOURS = new ArrayList<>();

    static {
        for (int cell = 0; cell < CELLS.size(); cell++) {
            NEIGHBOURS.add(listNeighbours(cell));
        }
    }

    private State now = new State(
            List.of(List.of(1, 0, 0), List.of(0, 1, 0), List.of(0, 0, 1)),
            List.of(List.of(0, 0, 0), List.of(0, 0, 0), List.of(0, 0, 0)),
            List.of(0, 0, 0), 0, 0, false, List.of());
    private final List<State> remembered = new ArrayList<>();
    private final State[] slots = new State[2];

    private static List<Cell> listCells() {
        List<Cell> cells = new ArrayList<>();
        for (int x = -5; x <= 5; x++) {
            for (int y = -5; y <= 5; y++) {
                for (int z = -5; z <= 5; z++) {
                    int faces = 0;
                    int inner = 0;
                    for (int c : new int[] {x, y, z}) {
                        faces += Math.abs(c) == 5 ? 1 : 0;
                        inner += List.of(-4, -2, 0, 2, 4).contains(c) ? 1 : 0;
                    }
                    if (faces == 1 && inner == 2) {
                        cells.add(new Cell(x, y, z));
                    }
                }
            }
        }
        return cells;
    }

    private static List<Integer> listNeighbours(int cell) {
        List<Integer> found = new ArrayList<>();
        Cell a = CELLS.get(cell);
        for (int i = 0; i < CELLS.size(); i++) {
            Cell b = CELLS.get(i);
            int distance = (a.x - b.x) * (a.x - b.x) + (a.y - b.y) * (a.y - b.y)
                    + (a.z - b.z) * (a.z - b.z);
            if (i != cell && distance <= 4) {
                found.add(i);
            }
        }
        return found;
    }

    private static List<Integer> neighbours(int cell) {
        return NEIGHBOURS.get(cell);
    }

    private static int coordinateOf(int cell, int coordinate) {
        Cell c = CELLS.get(cell);
        return List.of(c.x, c.y, c.z).get(coordinate);
    }

    private static long scalar(int cell, int[] a) {
        Cell c = CELLS.get(cell);
        return (long) c.x * a[0] + (long) c.y * a[1] + (long) c.z * a[2];
    }

    private static long square(int[] a) {
        return (long) a[0] * a[0] + (long) a[1] * a[1] + (long) a[2] * a[2];
    }

    private static int[] vector(int cell) {
        Cell c = CELLS.get(cell);
        return new int[] {c.x, c.y, c.z};
    }

    private static int[] direction(State state, int object, int time) {
        int[] a = new int[3];
        for (int i = 0; i < 3; i++) {
            a[i] = state.axes.get(object).get(i) + time * state.drifts.get(object).get(i);
        }
        return a;
    }

    private static boolean bright(State state, int cell, int time) {
        for (int object = 0; object < 3; object++) {
            long cone = state.cones.get(object);
            int[] a = direction(state, object, time);
            long p = scalar(cell, a);
            long left = Math.multiplyExact(10000L, Math.multiplyExact(p, p));
            long right = Math.multiplyExact(cone * cone * square(vector(cell)), square(a));
            if (cone != 0 && p > 0 && left > right) {
                return true;
            }
        }
        return false;
    }

    private static boolean dark(State state, int cell, int from, int until) {
        for (int time = from; time <= until; time++) {
            if (bright(state, cell, time)) {
                return false;
            }
        }
        return true;
    }

    private static int countBright(State state, int time) {
        int count = 0;
        for (int cell = 0; cell < 150; cell++) {
            count += bright(state, cell, time) ? 1 : 0;
        }
        return count;
    }

    /** The cells to which one step can lead from one of these cells, being there at a time. */
    private static TreeSet<Integer> stepFrom(State state, TreeSet<Integer> cells, int time) {
        TreeSet<Integer> then = new TreeSet<>();
        for (int cell : cells) {
            then.add(cell);
            then.addAll(neighbours(cell));
        }
        then.removeIf(cell -> bright(state, cell, time + 1));
        return then;
    }

    private TreeSet<Integer> ends(int k) {
        TreeSet<Integer> cells = new TreeSet<>(List.of(now.position));
        for (int i = 0; i < k; i++) {
            cells = stepFrom(now, cells, now.clock + i);
        }
        return cells;
    }

    private static int compare(List<Integer> a, List<Integer> b) {
        for (int i = 0; i < a.size(); i++) {
            if (!a.get(i).equals(b.get(i))) {
                return a.get(i) - b.get(i);
            }
        }
        return 0;
    }

    /** The positions of the best plan, the present one first; null if there is no plan. */
    private List<Integer> bestPlan(int cell) {
        TreeMap<Integer, List<Integer>> best = new TreeMap<>();
        best.put(now.position, List.of(now.position));
        for (int i = 0; i <= 60; i++) {
            if (best.containsKey(cell)) {
                return best.get(cell);
            }
            TreeMap<Integer, List<Integer>> longer = new TreeMap<>();
            for (List<Integer> plan : best.values()) {
                int last = plan.get(i);
                List<Integer> nexts = new ArrayList<>(neighbours(last));
                nexts.add(last);
                for (int next : nexts) {
                    List<Integer> then = new ArrayList<>(plan);
                    then.add(next);
                    if (!bright(now, next, now.clock + i + 1)
                            && (!longer.containsKey(next) || compare(then, longer.get(next)) < 0)) {
                        longer.put(next, then);
                    }
                }
            }
            best = longer;
        }
        return null;
    }

    /** The steps and the cell of the best parking cell; null if there is none. */
    private int[] parking(int k) {
        TreeSet<Integer> cells = new TreeSet<>(List.of(now.position));
        for (int s = 0; s <= 60; s++) {
            for (int cell : cells) {
                if (dark(now, cell, now.clock + s, now.clock + s + k)) {
                    return new int[] {s, cell};
                }
            }
            cells = stepFrom(now, cells, now.clock + s);
        }
        return null;
    }

    private int finish(Request request, int cell, int time) {
        TreeSet<Integer> cells = new TreeSet<>(List.of(cell));
        for (int s = time; s + request.exposure <= now.clock + 60; s++) {
            if (cells.contains(request.cell)
                    && dark(now, request.cell, s, s + request.exposure)) {
                return s + request.exposure;
            }
            cells = stepFrom(now, cells, s);
        }
        return NONE;
    }

    private int valueOf(List<Integer> order) {
        int cell = now.position;
        int time = now.clock;
        int value = 0;
        for (int i : order) {
            Request request = now.requests.get(i);
            int finish = finish(request, cell, time);
            if (finish != NONE) {
                cell = request.cell;
                time = finish;
                value += request.value;
            }
        }
        return value;
    }

    private static void permute(List<Integer> head, List<Integer> rest, List<List<Integer>> all) {
        if (rest.isEmpty()) {
            all.add(new ArrayList<>(head));
        }
        for (Integer i : rest) {
            List<Integer> longer = new ArrayList<>(head);
            List<Integer> fewer = new ArrayList<>(rest);
            longer.add(i);
            fewer.remove(i);
            permute(longer, fewer, all);
        }
    }

    private List<Integer> best() {
        List<Integer> numbers = new ArrayList<>();
        for (int i = 0; i < now.requests.size(); i++) {
            numbers.add(i);
        }
        List<List<Integer>> all = new ArrayList<>();
        permute(List.of(), numbers, all);
        Collections.sort(all, Model::compare);
        List<Integer> best = all.get(0);
        int bestValue = valueOf(best);
        for (List<Integer> order : all) {
            int value = valueOf(order);
            if (value > bestValue) {
                bestValue = value;
                best = order;
            }
        }
        return best;
    }

    private void act(State next) {
        remembered.add(now);
        if (remembered.size() > 14) {
            remembered.remove(0);
        }
        now = next;
    }

    private static void index(boolean good) {
        if (!good) {
            throw new IndexOutOfBoundsException();
        }
    }

    private static void argument(boolean good) {
        if (!good) {
            throw new IllegalArgumentException();
        }
    }

    private static void possible(boolean good) {
        if (!good) {
            throw new IllegalStateException();
        }
    }

    private static boolean in(int number, int least, int most) {
        return least <= number && number <= most;
    }

    private static <T> List<T> replaced(List<T> list, int i, T by) {
        List<T> copy = new ArrayList<>(list);
        copy.set(i, by);
        return copy;
    }

    public int coordinate(int cell, int coordinate) {
        index(in(cell, 0, 149) && in(coordinate, 0, 2));
        return coordinateOf(cell, coordinate);
    }

    public int cellOf(int x, int y, int z) {
        int i = CELLS.indexOf(new Cell(x, y, z));
        return i < 0 ? NONE : i;
    }

    public int neighbour(int cell, int k) {
        index(in(cell, 0, 149));
        argument(in(k, 0, 3));
        return neighbours(cell).get(k);
    }

    public int direction(int object, int coordinate, int time) {
        index(in(object, 0, 2) && in(coordinate, 0, 2));
        argument(in(time, 0, 300));
        return direction(now, object, time)[coordinate];
    }

    public int cone(int object) {
        index(in(object, 0, 2));
        return now.cones.get(object);
    }

    public double cosine(int cell, int object, int time) {
        index(in(cell, 0, 149) && in(object, 0, 2));
        argument(in(time, 0, 300));
        int[] a = direction(now, object, time);
        double p = (double) scalar(cell, a);
        return p / (Math.sqrt((double) square(vector(cell))) * Math.sqrt((double) square(a)));
    }

    public boolean isBright(int cell, int time) {
        index(in(cell, 0, 149));
        argument(in(time, 0, 300));
        return bright(now, cell, time);
    }

    public int brightCells(int time) {
        argument(in(time, 0, 300));
        return countBright(now, time);
    }

    public int firstBright(int cell, int from) {
        index(in(cell, 0, 149));
        argument(in(from, 0, 300));
        for (int time = from; time <= 300; time++) {
            if (bright(now, cell, time)) {
                return time;
            }
        }
        return NONE;
    }

    public int clock() {
        return now.clock;
    }

    public int position() {
        return now.position;
    }

    public boolean isClosed() {
        return now.closed;
    }

    public int requestCount() {
        return now.requests.size();
    }

    private int change(State next) {
        possible(next.closed || !bright(next, next.position, next.clock));
        act(next);
        return countBright(now, now.clock);
    }

    public int setAxis(int object, int x, int y, int z) {
        index(in(object, 0, 2));
        argument(in(x, -99, 99) && in(y, -99, 99) && in(z, -99, 99));
        argument(x != 0 || y != 0 || z != 0);
        return change(new State(replaced(now.axes, object, List.of(x, y, z)), now.drifts,
                now.cones, now.clock, now.position, now.closed, now.requests));
    }

    public int setDrift(int object, int x, int y, int z) {
        index(in(object, 0, 2));
        argument(in(x, -9, 9) && in(y, -9, 9) && in(z, -9, 9));
        return change(new State(now.axes, replaced(now.drifts, object, List.of(x, y, z)),
                now.cones, now.clock, now.position, now.closed, now.requests));
    }

    public int setCone(int object, int c) {
        index(in(object, 0, 2));
        argument(in(c, 0, 99));
        return change(new State(now.axes, now.drifts, replaced(now.cones, object, c),
                now.clock, now.position, now.closed, now.requests));
    }

    public int step(int cell) {
        index(in(cell, 0, 149));
        argument(cell == now.position || neighbours(now.position).contains(cell));
        possible(!now.closed && now.clock < 200 && !bright(now, cell, now.clock + 1));
        act(now.with(now.clock + 1, cell, false));
        return now.clock;
    }

    public int slew(int cell) {
        index(in(cell, 0, 149));
        possible(!now.closed);
        List<Integer> plan = bestPlan(cell);
        possible(plan != null && now.clock + plan.size() - 1 <= 200);
        act(now.with(now.clock + plan.size() - 1, cell, false));
        return plan.size() - 1;
    }

    public int close() {
        possible(!now.closed);
        act(now.with(now.clock, now.position, true));
        return now.clock;
    }

    public int open() {
        possible(now.closed && !bright(now, now.position, now.clock));
        act(now.with(now.clock, now.position, false));
        return now.clock;
    }

    public int pass(int n) {
        argument(in(n, 1, 100));
        possible(now.closed && now.clock + n <= 200);
        act(now.with(now.clock + n, now.position, true));
        return now.clock;
    }

    public int addRequest(int cell, int exposure, int value) {
        index(in(cell, 0, 149));
        argument(in(exposure, 1, 20) && in(value, 1, 99));
        possible(now.requests.size() < 4);
        List<Request> requests = new ArrayList<>(now.requests);
        requests.add(new Request(cell, exposure, value));
        act(now.with(requests));
        return requests.size() - 1;
    }

    public int removeRequest(int i) {
        index(in(i, 0, now.requests.size() - 1));
        List<Request> requests = new ArrayList<>(now.requests);
        requests.remove(i);
        act(now.with(requests));
        return requests.size();
    }

    public int undo() {
        possible(!remembered.isEmpty());
        now = remembered.remove(remembered.size() - 1);
        return remembered.size();
    }

    public int arrival(int cell) {
        index(in(cell, 0, 149));
        possible(!now.closed);
        List<Integer> plan = bestPlan(cell);
        return plan == null ? NONE : plan.size() - 1;
    }

    public int planCell(int cell, int i) {
        index(in(cell, 0, 149));
        argument(in(i, 0, 60));
        possible(!now.closed);
        List<Integer> plan = bestPlan(cell);
        return plan == null || i >= plan.size() ? NONE : plan.get(i);
    }

    public int reachableCells(int k) {
        argument(in(k, 0, 60));
        possible(!now.closed);
        return ends(k).size();
    }

    public int parkingCell(int k) {
        argument(in(k, 0, 40));
        possible(!now.closed);
        int[] found = parking(k);
        return found == null ? NONE : found[1];
    }

    public int parkingSteps(int k) {
        argument(in(k, 0, 40));
        possible(!now.closed);
        int[] found = parking(k);
        return found == null ? NONE : found[0];
    }

    public int requestFinish(int i) {
        index(in(i, 0, now.requests.size() - 1));
        possible(!now.closed);
        return finish(now.requests.get(i), now.position, now.clock);
    }

    public int bestValue() {
        possible(!now.closed);
        return valueOf(best());
    }

    public int bestOrder() {
        possible(!now.closed);
        int digits = 0;
        for (int i : best()) {
            digits = digits * 10 + i + 1;
        }
        return digits;
    }

    public int randomWalk(long seed, int m) {
        argument(in(m, 1, 60));
        possible(!now.closed);
        long x = seed;
        int cell = now.position;
        for (int i = 0; i < m; i++) {
            x = x * 6364136223846793005L + 1442695040888963407L;
            int r = (int) (x >>> 33) % 5;
            if (r < 4 && !bright(now, neighbours(cell).get(r), now.clock + i + 1)) {
                cell = neighbours(cell).get(r);
            } else if (bright(now, cell, now.clock + i + 1)) {
                return cell;
            }
        }
        return cell;
    }

    public int save(int slot) {
        index(in(slot, 0, 1));
        slots[slot] = now;
        return now.clock;
    }

    public int restore(int slot) {
        index(in(slot, 0, 1));
        possible(slots[slot] != null);
        now = slots[slot];
        remembered.clear();
        return now.clock;
    }
}
