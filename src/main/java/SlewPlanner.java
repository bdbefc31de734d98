/**
 * A slew planner for a telescope that must never point at a bright object: pointing directions are
 * the cells of a cube sphere, bright objects are moving cones, and the planner finds earliest
 * arrivals, safe parking cells and the best order of observations.
 */
public final class SlewPlanner {
    /** There is no such result. */
    public static final int NONE = -9;

    private static final int CELLS = 150;
    private static final int NEIGHBOURS = 4;
    private static final int AXES = 3;
    private static final int OBJECTS = 3;
    private static final int SLOTS = 2;
    private static final int REMEMBERED = 14;
    private static final int MAX_REQUESTS = 4;
    private static final int MAX_EXPOSURE = 20;
    private static final int MAX_VALUE = 99;
    private static final int MAX_AXIS = 99;
    private static final int MAX_DRIFT = 9;
    private static final int MAX_CONE = 99;
    private static final int LAST_CLOCK = 200;
    private static final int LAST_TIME = 300;
    private static final int PLAN_STEPS = 60;
    private static final int MAX_PARKING = 40;
    private static final int MAX_PASS = 100;

    // What a state keeps of each object, at these places behind one another.
    private static final int AXIS = 0;
    private static final int DRIFT = 3;
    private static final int CONE = 6;
    private static final int OBJECT_PARTS = 7;

    // What a state keeps of each request, at these places behind one another.
    private static final int TARGET = 0;
    private static final int EXPOSURE = 1;
    private static final int VALUE = 2;
    private static final int REQUEST_PARTS = 3;

    private final Sphere sphere;
    private final State state;
    private final State draft;
    private final Memory memory;
    private final State[] slots;
    private final Sky sky;
    private final Plans plans;
    private final Orders orders;

    public SlewPlanner() {
        sphere = new Sphere();
        state = new State();
        draft = new State();
        memory = new Memory();
        slots = new State[SLOTS];
        sky = new Sky(sphere);
        plans = new Plans(sphere, sky);
        orders = new Orders(plans);
    }

    // ---- cells

    public int coordinate(int cell, int coordinate) throws IndexOutOfBoundsException {
        requireCell(cell);
        requireCoordinate(coordinate);
        return sphere.part(cell, coordinate);
    }

    public int cellOf(int x, int y, int z) {
        return sphere.find(x, y, z);
    }

    public int neighbour(int cell, int k) throws IndexOutOfBoundsException, IllegalArgumentException {
        requireCell(cell);
        requireRange(k, 0, NEIGHBOURS - 1);
        return sphere.beside(cell, k);
    }

    // ---- bright objects

    public int direction(int object, int coordinate, int time)
            throws IndexOutOfBoundsException, IllegalArgumentException {
        requireObject(object);
        requireCoordinate(coordinate);
        requireTime(time);
        return state.aimOf(object, coordinate, time);
    }

    public int cone(int object) throws IndexOutOfBoundsException {
        requireObject(object);
        return state.ofObject(object, CONE);
    }

    public double cosine(int cell, int object, int time)
            throws IndexOutOfBoundsException, IllegalArgumentException {
        requireCell(cell);
        requireObject(object);
        requireTime(time);
        int x = state.aimOf(object, 0, time);
        int y = state.aimOf(object, 1, time);
        int z = state.aimOf(object, 2, time);
        int square = x * x + y * y + z * z;
        if (square == 0) {
            // A constant, so that no division has to answer it.
            return Double.NaN;
        }
        double product = (double) sphere.scalar(cell, x, y, z);
        return product / (rootOf(sphere.square(cell)) * rootOf(square));
    }

    public boolean isBright(int cell, int time)
            throws IndexOutOfBoundsException, IllegalArgumentException {
        requireCell(cell);
        requireTime(time);
        return presentSky().isLit(cell, time);
    }

    public int brightCells(int time) throws IllegalArgumentException {
        requireTime(time);
        return presentSky().countLit(time);
    }

    public int firstBright(int cell, int from)
            throws IndexOutOfBoundsException, IllegalArgumentException {
        requireCell(cell);
        requireTime(from);
        return presentSky().firstLit(cell, from, LAST_TIME);
    }

    // ---- state

    public int clock() {
        return state.clock;
    }

    public int position() {
        return state.position;
    }

    public boolean isClosed() {
        return state.shut;
    }

    public int requestCount() {
        return state.requestTotal;
    }

    // ---- actions

    public int setAxis(int object, int x, int y, int z)
            throws IndexOutOfBoundsException, IllegalArgumentException, IllegalStateException {
        requireObject(object);
        requireVector(x, y, z, MAX_AXIS);
        if (x == 0 && y == 0 && z == 0) {
            throw new IllegalArgumentException("an axis has a direction");
        }
        draft.copyFrom(state);
        draft.setVector(object, AXIS, x, y, z);
        return adoptDraft();
    }

    public int setDrift(int object, int x, int y, int z)
            throws IndexOutOfBoundsException, IllegalArgumentException, IllegalStateException {
        requireObject(object);
        requireVector(x, y, z, MAX_DRIFT);
        draft.copyFrom(state);
        draft.setVector(object, DRIFT, x, y, z);
        return adoptDraft();
    }

    public int setCone(int object, int c)
            throws IndexOutOfBoundsException, IllegalArgumentException, IllegalStateException {
        requireObject(object);
        requireRange(c, 0, MAX_CONE);
        draft.copyFrom(state);
        draft.setObject(object, CONE, c);
        return adoptDraft();
    }

    public int step(int cell)
            throws IndexOutOfBoundsException, IllegalArgumentException, IllegalStateException {
        requireCell(cell);
        if (!sphere.isStep(state.position, cell)) {
            throw new IllegalArgumentException("a step goes to a neighbour or stays");
        }
        requireOpen();
        if (state.clock >= LAST_CLOCK) {
            throw new IllegalStateException("the clock is at its end");
        }
        if (presentSky().isLit(cell, state.clock + 1)) {
            throw new IllegalStateException("the cell would be bright");
        }
        memory.remember(state);
        state.clock++;
        state.position = cell;
        return state.clock;
    }

    public int slew(int cell) throws IndexOutOfBoundsException, IllegalStateException {
        requireCell(cell);
        requireOpen();
        int steps = presentPlans().stepsTo(cell);
        if (steps == NONE) {
            throw new IllegalStateException("there is no plan to this cell");
        }
        if (state.clock + steps > LAST_CLOCK) {
            throw new IllegalStateException("the clock would pass its end");
        }
        memory.remember(state);
        state.clock += steps;
        state.position = cell;
        return steps;
    }

    public int close() throws IllegalStateException {
        requireOpen();
        memory.remember(state);
        state.shut = true;
        return state.clock;
    }

    public int open() throws IllegalStateException {
        requireShut();
        if (presentSky().isLit(state.position, state.clock)) {
            throw new IllegalStateException("the position is bright");
        }
        memory.remember(state);
        state.shut = false;
        return state.clock;
    }

    public int pass(int n) throws IllegalArgumentException, IllegalStateException {
        requireRange(n, 1, MAX_PASS);
        requireShut();
        if (state.clock + n > LAST_CLOCK) {
            throw new IllegalStateException("the clock would pass its end");
        }
        memory.remember(state);
        state.clock += n;
        return state.clock;
    }

    public int addRequest(int cell, int exposure, int value)
            throws IndexOutOfBoundsException, IllegalArgumentException, IllegalStateException {
        requireCell(cell);
        requireRange(exposure, 1, MAX_EXPOSURE);
        requireRange(value, 1, MAX_VALUE);
        if (state.requestTotal >= MAX_REQUESTS) {
            throw new IllegalStateException("there is no room for another request");
        }
        memory.remember(state);
        state.appendRequest(cell, exposure, value);
        return state.requestTotal - 1;
    }

    public int removeRequest(int i) throws IndexOutOfBoundsException {
        requireRequest(i);
        memory.remember(state);
        state.dropRequest(i);
        return state.requestTotal;
    }

    public int undo() throws IllegalStateException {
        State last = memory.takeLast();
        if (last == null) {
            throw new IllegalStateException("no state is remembered");
        }
        state.copyFrom(last);
        return memory.count;
    }

    // ---- plans

    public int arrival(int cell) throws IndexOutOfBoundsException, IllegalStateException {
        requireCell(cell);
        requireOpen();
        return presentPlans().stepsTo(cell);
    }

    public int planCell(int cell, int i)
            throws IndexOutOfBoundsException, IllegalArgumentException, IllegalStateException {
        requireCell(cell);
        requireRange(i, 0, PLAN_STEPS);
        requireOpen();
        return presentPlans().bestPlanCell(cell, i);
    }

    public int reachableCells(int k) throws IllegalArgumentException, IllegalStateException {
        requireRange(k, 0, PLAN_STEPS);
        requireOpen();
        return presentPlans().countEnds(k);
    }

    public int parkingCell(int k) throws IllegalArgumentException, IllegalStateException {
        requireRange(k, 0, MAX_PARKING);
        requireOpen();
        Plans here = presentPlans();
        int steps = here.stepsToPark(k);
        return steps == NONE ? NONE : here.safeCell(steps, k);
    }

    public int parkingSteps(int k) throws IllegalArgumentException, IllegalStateException {
        requireRange(k, 0, MAX_PARKING);
        requireOpen();
        return presentPlans().stepsToPark(k);
    }

    public int requestFinish(int i) throws IndexOutOfBoundsException, IllegalStateException {
        requireRequest(i);
        requireOpen();
        int deadline = state.clock + PLAN_STEPS;
        int exposure = state.ofRequest(i, EXPOSURE);
        return presentPlans().finishOf(state.ofRequest(i, TARGET), exposure, deadline);
    }

    public int bestValue() throws IllegalStateException {
        requireOpen();
        return presentOrders().bestSum;
    }

    public int bestOrder() throws IllegalStateException {
        requireOpen();
        return presentOrders().bestDigits;
    }

    public int randomWalk(long seed, int m) throws IllegalArgumentException, IllegalStateException {
        requireRange(m, 1, PLAN_STEPS);
        requireOpen();
        Sky above = presentSky();
        int cell = state.position;
        long x = seed;
        for (int i = 1; i <= m; i++) {
            x = x * 6364136223846793005L + 1442695040888963407L;
            int r = (int) (x >>> 33) % 5;
            int time = state.clock + i;
            int next = r < NEIGHBOURS ? sphere.beside(cell, r) : cell;
            if (!above.isLit(next, time)) {
                cell = next;
            } else if (above.isLit(cell, time)) {
                return cell;
            }
        }
        return cell;
    }

    // ---- save slots

    public int save(int slot) throws IndexOutOfBoundsException {
        requireSlot(slot);
        State kept = slots[slot];
        if (kept == null) {
            kept = new State();
            slots[slot] = kept;
        }
        kept.copyFrom(state);
        return state.clock;
    }

    public int restore(int slot) throws IndexOutOfBoundsException, IllegalStateException {
        requireSlot(slot);
        State kept = slots[slot];
        if (kept == null) {
            throw new IllegalStateException("the slot is empty");
        }
        state.copyFrom(kept);
        memory.forgetAll();
        return state.clock;
    }

    // ---- what the methods above share

    /** Makes the draft, in which an object was changed, the state; answers the bright cells then. */
    private int adoptDraft() {
        sky.show(draft);
        if (!draft.shut && sky.isLit(draft.position, draft.clock)) {
            throw new IllegalStateException("the position would be bright");
        }
        memory.remember(state);
        state.copyFrom(draft);
        return sky.countLit(state.clock);
    }

    private Sky presentSky() {
        sky.show(state);
        return sky;
    }

    /** The plans from the present position and clock on. */
    private Plans presentPlans() {
        sky.show(state);
        plans.begin(state.position, state.clock);
        return plans;
    }

    /** The orders of the present requests, all of them tried. */
    private Orders presentOrders() {
        sky.show(state);
        orders.begin(state);
        Orders.tryAll(orders, 0, 0, state.position, state.clock, 0, 0);
        return orders;
    }

    /** The square root, rounded as Math.sqrt rounds it, which this program does without. */
    private static double rootOf(int n) {
        long root = 0;
        long rest = 0;
        long scale = 1;
        // A binary digit of the root each time, until there are the 53 of a double and one to round.
        for (int shift = 30; shift > -110 && root < 1L << 53; shift -= 2) {
            rest = rest << 2 | (shift >= 0 ? n >> shift & 3 : 0);
            root <<= 1;
            if (rest > 2 * root) {
                rest -= 2 * root + 1;
                root++;
            }
            if (shift < 0) {
                scale <<= 1;
            }
        }
        return (double) (root + 1 >> 1) / (double) (scale >> 1);
    }

    private void requireOpen() {
        if (state.shut) {
            throw new IllegalStateException("the shutter is closed");
        }
    }

    private void requireShut() {
        if (!state.shut) {
            throw new IllegalStateException("the shutter is open");
        }
    }

    private void requireRequest(int i) {
        if (i < 0 || i >= state.requestTotal) {
            throw new IndexOutOfBoundsException("there is no such request");
        }
    }

    private static void requireCell(int cell) {
        if (cell < 0 || cell >= CELLS) {
            throw new IndexOutOfBoundsException("there is no such cell");
        }
    }

    private static void requireCoordinate(int coordinate) {
        if (coordinate < 0 || coordinate >= AXES) {
            throw new IndexOutOfBoundsException("there is no such coordinate");
        }
    }

    private static void requireObject(int object) {
        if (object < 0 || object >= OBJECTS) {
            throw new IndexOutOfBoundsException("there is no such object");
        }
    }

    private static void requireSlot(int slot) {
        if (slot < 0 || slot >= SLOTS) {
            throw new IndexOutOfBoundsException("there is no such slot");
        }
    }

    private static void requireTime(int time) {
        requireRange(time, 0, LAST_TIME);
    }

    private static void requireVector(int x, int y, int z, int most) {
        requireRange(x, -most, most);
        requireRange(y, -most, most);
        requireRange(z, -most, most);
    }

    private static void requireRange(int number, int least, int most) {
        if (number < least || number > most) {
            throw new IllegalArgumentException("an argument is out of its range");
        }
    }

    /** Sets of cells in numbered rows; a row is three words with a bit for each cell. */
    private static final class CellSets {
        private static final int WORDS = 3;

        private final long[] words;

        CellSets(int rows) {
            words = new long[rows > 0 ? WORDS * rows : 0];
        }

        private boolean hasRow(int row) {
            int i = WORDS * row;
            return i >= 0 && i <= words.length - WORDS;
        }

        private long word(int row, int w) {
            int i = WORDS * row + w;
            return i >= 0 && i < words.length ? words[i] : 0;
        }

        boolean has(int row, int cell) {
            return cell >= 0 && cell < CELLS && (word(row, cell >> 6) >>> (cell & 63) & 1) != 0;
        }

        void add(int row, int cell) {
            int i = WORDS * row + (cell >> 6);
            if (cell >= 0 && cell < CELLS && i >= 0 && i < words.length) {
                words[i] |= 1L << (cell & 63);
            }
        }

        void clear(int row) {
            if (hasRow(row)) {
                for (int w = 0; w < WORDS; w++) {
                    words[WORDS * row + w] = 0;
                }
            }
        }

        void unite(int row, CellSets other, int otherRow) {
            if (hasRow(row) && other.hasRow(otherRow)) {
                for (int w = 0; w < WORDS; w++) {
                    words[WORDS * row + w] |= other.words[WORDS * otherRow + w];
                }
            }
        }

        void retain(int row, CellSets other, int otherRow) {
            if (hasRow(row) && other.hasRow(otherRow)) {
                for (int w = 0; w < WORDS; w++) {
                    words[WORDS * row + w] &= other.words[WORDS * otherRow + w];
                }
            }
        }

        void takeAway(int row, CellSets other, int otherRow) {
            if (hasRow(row) && other.hasRow(otherRow)) {
                for (int w = 0; w < WORDS; w++) {
                    words[WORDS * row + w] &= ~other.words[WORDS * otherRow + w];
                }
            }
        }

        /** Fills a row with all cells that are one step (or none) from a cell of another row. */
        void spread(int row, int fromRow, CellSets hoods) {
            clear(row);
            for (int w = 0; w < WORDS; w++) {
                long bits = word(fromRow, w);
                for (int bit = 0; bit < 64 && bits != 0; bit++) {
                    if ((bits & 1) != 0) {
                        unite(row, hoods, 64 * w + bit);
                    }
                    bits >>>= 1;
                }
            }
        }

        int size(int row) {
            int size = 0;
            for (int w = 0; w < WORDS; w++) {
                size += Long.bitCount(word(row, w));
            }
            return size;
        }

        int smallest(int row) {
            for (int cell = 0; cell < CELLS; cell++) {
                if (has(row, cell)) {
                    return cell;
                }
            }
            return NONE;
        }
    }

    /** The cells of the cube sphere and their neighbours. */
    private static final class Sphere {
        private static final int FACE = 5;
        private static final int NEAR = 2;

        /** For each cell, the cells to which a step from it can go, itself among them. */
        final CellSets hoods = new CellSets(CELLS);

        private final int[] vectors = new int[AXES * CELLS];
        private final int[] squares = new int[CELLS];
        private final int[] adjacent = new int[NEIGHBOURS * CELLS];

        Sphere() {
            listCells();
            linkCells();
        }

        private void listCells() {
            int cell = 0;
            for (int x = -FACE; x <= FACE; x++) {
                for (int y = -FACE; y <= FACE; y++) {
                    for (int z = -FACE; z <= FACE; z++) {
                        if (isVector(x, y, z) && cell < CELLS) {
                            vectors[AXES * cell] = x;
                            vectors[AXES * cell + 1] = y;
                            vectors[AXES * cell + 2] = z;
                            squares[cell] = x * x + y * y + z * z;
                            cell++;
                        }
                    }
                }
            }
        }

        private void linkCells() {
            int[] links = new int[CELLS];
            for (int cell = 0; cell < CELLS; cell++) {
                hoods.add(cell, cell);
                // The cells stand in the order of x: behind the first that is too far in x, all are.
                for (int other = cell + 1;
                        other < CELLS && vectors[AXES * other] - vectors[AXES * cell] <= NEAR;
                        other++) {
                    if (distance(cell, other) <= NEAR * NEAR) {
                        link(cell, other, links);
                        link(other, cell, links);
                    }
                }
            }
        }

        private void link(int cell, int other, int[] links) {
            if (cell >= 0 && cell < CELLS && cell < links.length && links[cell] < NEIGHBOURS) {
                int i = NEIGHBOURS * cell + links[cell];
                if (i >= 0 && i < adjacent.length) {
                    adjacent[i] = other;
                    links[cell]++;
                    hoods.add(cell, other);
                }
            }
        }

        private int distance(int cell, int other) {
            int x = part(cell, 0) - part(other, 0);
            int y = part(cell, 1) - part(other, 1);
            int z = part(cell, 2) - part(other, 2);
            return x * x + y * y + z * z;
        }

        private static boolean isVector(int x, int y, int z) {
            if (isFace(x)) {
                return isInner(y) && isInner(z);
            }
            if (isFace(y)) {
                return isInner(x) && isInner(z);
            }
            return isFace(z) && isInner(x) && isInner(y);
        }

        private static boolean isFace(int c) {
            return c == FACE || c == -FACE;
        }

        private static boolean isInner(int c) {
            return c > -FACE && c < FACE && (c & 1) == 0;
        }

        int part(int cell, int coordinate) {
            int i = AXES * cell + coordinate;
            return i >= 0 && i < vectors.length ? vectors[i] : 0;
        }

        int find(int x, int y, int z) {
            for (int cell = 0; cell < CELLS; cell++) {
                if (part(cell, 0) == x && part(cell, 1) == y && part(cell, 2) == z) {
                    return cell;
                }
            }
            return NONE;
        }

        int beside(int cell, int k) {
            int i = NEIGHBOURS * cell + k;
            return i >= 0 && i < adjacent.length ? adjacent[i] : NONE;
        }

        boolean isStep(int cell, int next) {
            return hoods.has(cell, next);
        }

        int scalar(int cell, int x, int y, int z) {
            int i = AXES * cell;
            if (i < 0 || i > vectors.length - AXES) {
                return 0;
            }
            return vectors[i] * x + vectors[i + 1] * y + vectors[i + 2] * z;
        }

        int square(int cell) {
            return cell >= 0 && cell < squares.length ? squares[cell] : 0;
        }
    }

    /** What the actions change: the objects, the clock, the position, the shutter, the requests. */
    private static final class State {
        int clock;
        int position;
        boolean shut;
        int requestTotal;

        private final int[] objects = new int[OBJECTS * OBJECT_PARTS];
        private final int[] requests = new int[MAX_REQUESTS * REQUEST_PARTS];

        State() {
            for (int i = 0; i < AXES && i < OBJECTS; i++) {
                objects[OBJECT_PARTS * i + AXIS + i] = 1;
            }
        }

        void copyFrom(State other) {
            clock = other.clock;
            position = other.position;
            shut = other.shut;
            requestTotal = other.requestTotal;
            System.arraycopy(other.requests, 0, requests, 0, MAX_REQUESTS * REQUEST_PARTS);
            copyObjects(other);
        }

        void copyObjects(State other) {
            System.arraycopy(other.objects, 0, objects, 0, OBJECTS * OBJECT_PARTS);
        }

        boolean hasObjectsOf(State other) {
            for (int i = 0; i < objects.length && i < other.objects.length; i++) {
                if (objects[i] != other.objects[i]) {
                    return false;
                }
            }
            return true;
        }

        int ofObject(int object, int part) {
            int i = OBJECT_PARTS * object + part;
            return i >= 0 && i < objects.length ? objects[i] : 0;
        }

        void setObject(int object, int part, int number) {
            int i = OBJECT_PARTS * object + part;
            if (i >= 0 && i < objects.length) {
                objects[i] = number;
            }
        }

        void setVector(int object, int part, int x, int y, int z) {
            setObject(object, part, x);
            setObject(object, part + 1, y);
            setObject(object, part + 2, z);
        }

        int aimOf(int object, int coordinate, int time) {
            int i = OBJECT_PARTS * object + coordinate;
            if (i < 0 || i >= objects.length - DRIFT) {
                return 0;
            }
            return objects[i + AXIS] + time * objects[i + DRIFT];
        }

        int ofRequest(int request, int part) {
            int i = REQUEST_PARTS * request + part;
            return i >= 0 && i < requests.length ? requests[i] : 0;
        }

        private void setRequest(int request, int part, int number) {
            int i = REQUEST_PARTS * request + part;
            if (i >= 0 && i < requests.length) {
                requests[i] = number;
            }
        }

        void appendRequest(int cell, int exposure, int value) {
            setRequest(requestTotal, TARGET, cell);
            setRequest(requestTotal, EXPOSURE, exposure);
            setRequest(requestTotal, VALUE, value);
            requestTotal++;
        }

        void dropRequest(int request) {
            for (int i = request; i < requestTotal - 1; i++) {
                for (int part = 0; part < REQUEST_PARTS; part++) {
                    setRequest(i, part, ofRequest(i + 1, part));
                }
            }
            requestTotal--;
        }
    }

    /** The states before the last actions, in a ring. */
    private static final class Memory {
        int count;

        private final State[] states = new State[REMEMBERED];
        private int oldest;

        void remember(State state) {
            int i = (oldest + count) % REMEMBERED;
            if (count < REMEMBERED) {
                count++;
            } else {
                oldest = (oldest + 1) % REMEMBERED;
            }
            if (i >= 0 && i < states.length) {
                State kept = states[i];
                if (kept == null) {
                    kept = new State();
                    states[i] = kept;
                }
                kept.copyFrom(state);
            }
        }

        /** The state that was remembered last, and is no longer; null if there is none. */
        State takeLast() {
            if (count <= 0) {
                return null;
            }
            count--;
            int i = (oldest + count) % REMEMBERED;
            return i >= 0 && i < states.length ? states[i] : null;
        }

        void forgetAll() {
            oldest = 0;
            count = 0;
        }
    }

    /** Which cells the objects make bright at which times. */
    private static final class Sky {
        private final Sphere sphere;
        /** The objects of this state are the ones for which the drawn rows hold. */
        private final State shown = new State();
        /** Row t has the cells that are bright at the time t, if that row is drawn. */
        final CellSets lit = new CellSets(LAST_TIME + 1);
        private final boolean[] drawn = new boolean[LAST_TIME + 1];

        // The object that was aimed at last.
        private int aimX;
        private int aimY;
        private int aimZ;
        private long limit;

        Sky(Sphere cells) {
            sphere = cells;
        }

        /** Every question after this one is about the objects of this state. */
        void show(State state) {
            if (shown.hasObjectsOf(state)) {
                return;
            }
            shown.copyObjects(state);
            for (int time = 0; time < drawn.length; time++) {
                drawn[time] = false;
            }
        }

        boolean isLit(int cell, int time) {
            if (time >= 0 && time < drawn.length && drawn[time]) {
                return lit.has(time, cell);
            }
            for (int object = 0; object < OBJECTS; object++) {
                if (aim(object, time) && hits(cell)) {
                    return true;
                }
            }
            return false;
        }

        /** The first time from one to another at which the cell is bright; NONE if it stays dark. */
        int firstLit(int cell, int from, int until) {
            for (int time = from; time <= until; time++) {
                if (isLit(cell, time)) {
                    return time;
                }
            }
            return NONE;
        }

        int countLit(int time) {
            draw(time);
            return lit.size(time);
        }

        /** Finds all cells that are bright at a time, if that has not been done. */
        void draw(int time) {
            if (time < 0 || time >= drawn.length || drawn[time]) {
                return;
            }
            drawn[time] = true;
            lit.clear(time);
            for (int object = 0; object < OBJECTS; object++) {
                if (aim(object, time)) {
                    for (int cell = 0; cell < CELLS; cell++) {
                        if (hits(cell)) {
                            lit.add(time, cell);
                        }
                    }
                }
            }
        }

        /** Aims at an object; false if it is switched off. */
        private boolean aim(int object, int time) {
            long cosine = shown.ofObject(object, CONE);
            aimX = shown.aimOf(object, 0, time);
            aimY = shown.aimOf(object, 1, time);
            aimZ = shown.aimOf(object, 2, time);
            limit = cosine * cosine * (aimX * aimX + aimY * aimY + aimZ * aimZ);
            return cosine != 0;
        }

        /** Tells whether the object that was aimed at makes the cell bright. */
        private boolean hits(int cell) {
            long product = sphere.scalar(cell, aimX, aimY, aimZ);
            return product > 0 && 10000 * product * product > limit * sphere.square(cell);
        }
    }

    /** The plans from a cell and a time on. */
    private static final class Plans {
        private final Sphere sphere;
        private final Sky sky;
        /** Row k has the cells at which plans of k steps end; the rows up to made are there. */
        private final CellSets ends = new CellSets(PLAN_STEPS + 1);
        /** Row k has the cells at which the shortest plans to a cell are after k steps. */
        private final CellSets ways = new CellSets(PLAN_STEPS + 1);
        private final CellSets choice = new CellSets(1);
        private int made;
        private int first;
        private int start;

        Plans(Sphere cells, Sky above) {
            sphere = cells;
            sky = above;
        }

        void begin(int cell, int time) {
            first = cell;
            start = time;
            ends.clear(0);
            ends.add(0, cell);
            made = 0;
        }

        private void makeEnds(int k) {
            for (int row = made + 1; row <= k && row <= PLAN_STEPS; row++) {
                ends.spread(row, row - 1, sphere.hoods);
                sky.draw(start + row);
                ends.takeAway(row, sky.lit, start + row);
                made = row;
            }
        }

        int stepsTo(int cell) {
            for (int k = 0; k <= PLAN_STEPS; k++) {
                makeEnds(k);
                if (ends.has(k, cell)) {
                    return k;
                }
            }
            return NONE;
        }

        int countEnds(int k) {
            makeEnds(k);
            return ends.size(k);
        }

        int bestPlanCell(int cell, int i) {
            int steps = stepsTo(cell);
            if (steps == NONE || i > steps) {
                return NONE;
            }
            findWays(cell, steps);
            int place = first;
            for (int k = 1; k <= i; k++) {
                choice.clear(0);
                choice.unite(0, sphere.hoods, place);
                choice.retain(0, ways, k);
                place = choice.smallest(0);
            }
            return place;
        }

        private void findWays(int cell, int steps) {
            ways.clear(steps);
            ways.add(steps, cell);
            for (int k = steps - 1; k >= 0; k--) {
                ways.spread(k, k + 1, sphere.hoods);
                ways.retain(k, ends, k);
            }
        }

        int stepsToPark(int darkTime) {
            for (int k = 0; k <= PLAN_STEPS; k++) {
                if (safeCell(k, darkTime) != NONE) {
                    return k;
                }
            }
            return NONE;
        }

        /** The first cell at which k steps can end and which stays dark then; NONE if none does. */
        int safeCell(int k, int darkTime) {
            makeEnds(k);
            int time = start + k;
            for (int cell = 0; cell < CELLS; cell++) {
                if (ends.has(k, cell) && sky.firstLit(cell, time, time + darkTime) == NONE) {
                    return cell;
                }
            }
            return NONE;
        }

        /** When a request is finished at the earliest; NONE if not until the deadline. */
        int finishOf(int target, int exposure, int deadline) {
            int most = deadline - exposure - start;
            for (int k = 0; k <= most && k <= PLAN_STEPS; k++) {
                int time = start + k;
                if (sky.firstLit(target, time, time + exposure) == NONE) {
                    makeEnds(k);
                    if (ends.has(k, target)) {
                        return time + exposure;
                    }
                }
            }
            return NONE;
        }
    }

    /** The orders of the requests, and the best of those that were tried. */
    private static final class Orders {
        int bestSum;
        int bestDigits;

        private final Plans plans;
        private final State asked = new State();

        Orders(Plans found) {
            plans = found;
        }

        void begin(State state) {
            asked.copyFrom(state);
            bestSum = NONE;
            bestDigits = 0;
        }

        /**
         * Tries all orders that begin with the requests that are used, as a bit each, and go on from
         * a cell and a time; the smaller order is tried first, so it stays among equals.
         */
        private static void tryAll(
                Orders orders, int depth, int used, int cell, int time, int sum, int digits) {
            State asked = orders.asked;
            if (depth >= asked.requestTotal || depth >= MAX_REQUESTS) {
                if (sum > orders.bestSum) {
                    orders.bestSum = sum;
                    orders.bestDigits = digits;
                }
                return;
            }
            for (int i = 0; i < asked.requestTotal; i++) {
                if ((used >> i & 1) == 0) {
                    int usedThen = used | 1 << i;
                    int digitsThen = 10 * digits + i + 1;
                    int target = asked.ofRequest(i, TARGET);
                    int deadline = asked.clock + PLAN_STEPS;
                    orders.plans.begin(cell, time);
                    int finish = orders.plans.finishOf(target, asked.ofRequest(i, EXPOSURE), deadline);
                    if (finish == NONE) {
                        tryAll(orders, depth + 1, usedThen, cell, time, sum, digitsThen);
                    } else {
                        int sumThen = sum + asked.ofRequest(i, VALUE);
                        tryAll(orders, depth + 1, usedThen, target, finish, sumThen, digitsThen);
                    }
                }
            }
        }
    }
}
