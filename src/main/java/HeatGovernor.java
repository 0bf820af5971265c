import java.util.Arrays;

/**
 * A governor that grants cores how much power they may draw, so that no temperature of a package,
 * whose numbers are only known within ranges, ever passes its limit.
 */
public final class HeatGovernor {
    private static final int CORES = 4;
    private static final int NODES = 6;
    private static final int AIR = 6;
    private static final int PLACES = 7;
    private static final int STEPS = 4;

    private static final int HOLD_TICKS = 8;
    private static final int CALM_TICKS = 250;
    private static final int SENSOR_ERROR = 200;
    private static final int NO_WISH = -1;
    private static final int DEAD_READING = -1;

    private static final int MAX_TEMPERATURE = 50000;
    private static final int MAX_CAPACITY = 10000;
    private static final int MAX_CONDUCTANCE = 500;
    private static final int MAX_POWER = 1000000;
    private static final int MAX_LEAK_BASE = 100000;
    private static final int MAX_LEAK_SLOPE = 100;
    private static final int MAX_RANK = 9;
    private static final int MAX_TICKS = 100;
    private static final int MAX_STEPS_WORD = 255;

    private static final int FIRST_CAPACITY = 1000;
    private static final int FIRST_AIR = 5000;
    private static final int FIRST_LIMIT = 20000;

    private final Chip chip;
    private final Outlook outlook;
    private final Nodes nodes;
    private final Cores cores;
    private final int[] stepsLookedAt;
    private boolean sealed;

    public HeatGovernor() {
        chip = new Chip();
        outlook = new Outlook(chip);
        nodes = new Nodes();
        cores = new Cores();
        stepsLookedAt = new int[CORES];
        sealed = false;
    }

    public void capacity(int n, int low, int high)
            throws IndexOutOfBoundsException, IllegalArgumentException, IllegalStateException {
        needIndex(n, NODES);
        needRange(low, high, 1, MAX_CAPACITY);
        needUnsealed();
        chip.setCapacity(n, low, high);
    }

    public void edge(int a, int b, int low, int high)
            throws IndexOutOfBoundsException, IllegalArgumentException, IllegalStateException {
        needIndex(a, PLACES);
        needIndex(b, PLACES);
        if (a == b) {
            throw new IndexOutOfBoundsException();
        }
        needRange(low, high, 0, MAX_CONDUCTANCE);
        needUnsealed();
        chip.setEdge(a, b, low, high);
    }

    public void limit(int n, int t)
            throws IndexOutOfBoundsException, IllegalArgumentException, IllegalStateException {
        needIndex(n, NODES);
        needWithin(t, 0, MAX_TEMPERATURE);
        needUnsealed();
        chip.limits[n] = t;
    }

    public void air(int low, int truly, int high) throws IllegalArgumentException, IllegalStateException {
        needRange(low, high, 0, MAX_TEMPERATURE);
        needWithin(truly, low, high);
        needUnsealed();
        // What is worst never comes from the coldest air, so the low number is not kept.
        chip.trueAir = truly;
        chip.highAir = high;
    }

    public void power(int step, int p)
            throws IndexOutOfBoundsException, IllegalArgumentException, IllegalStateException {
        needIndex(step, STEPS);
        int least = step > 0 ? chip.powers[step - 1] : 0;
        int most = step < STEPS - 1 ? chip.powers[step + 1] : MAX_POWER;
        needWithin(p, least, most);
        needUnsealed();
        chip.powers[step] = p;
    }

    public void leak(int base, int slope, int steep, int knee)
            throws IllegalArgumentException, IllegalStateException {
        needWithin(base, 0, MAX_LEAK_BASE);
        needWithin(slope, 0, MAX_LEAK_SLOPE);
        needWithin(steep, 0, MAX_LEAK_SLOPE);
        needWithin(knee, 0, MAX_TEMPERATURE);
        needUnsealed();
        chip.setLeak(base, slope, steep, knee);
    }

    public void truth(int a, int b, int v)
            throws IndexOutOfBoundsException, IllegalArgumentException, IllegalStateException {
        needIndex(a, PLACES);
        needIndex(b, PLACES);
        if (a == b) {
            needIndex(a, NODES);
            needWithin(v, chip.lowCapacities[a], chip.highCapacities[a]);
            needUnsealed();
            chip.trueCapacities[a] = v;
        } else {
            needWithin(v, chip.lowEdges[between(a, b)], chip.highEdges[between(a, b)]);
            needUnsealed();
            chip.setTrueEdge(a, b, v);
        }
    }

    public boolean seal() throws IllegalStateException {
        needUnsealed();
        if (!chip.isJoined() || !chip.isSteady()) {
            return false;
        }
        // Nodes and cores can't be seen before it is sealed, so a refusal may leave them begun.
        nodes.begin(chip);
        cores.begin();
        sealed = outlook.isSafe(nodes.bounds, cores.steps);
        return sealed;
    }

    public void ask(int core, int step, int rank)
            throws IndexOutOfBoundsException, IllegalArgumentException, IllegalStateException {
        needIndex(core, CORES);
        needWithin(step, 0, STEPS - 1);
        needWithin(rank, 0, MAX_RANK);
        needSealed();
        cores.wishes[core] = step;
        cores.ranks[core] = rank;
    }

    public int period() throws IllegalStateException {
        needSealed();
        return cores.beginPeriod(outlook, nodes.bounds);
    }

    public int tick(int n) throws IllegalArgumentException, IllegalStateException {
        needWithin(n, 1, MAX_TICKS);
        needSealed();
        int busy = 0;
        for (int i = 0; i < n; i++) {
            if (cores.isBusy()) {
                busy++;
            }
            nodes.passTick(chip, cores);
            cores.passTick();
        }
        return busy;
    }

    public void draw(int core, int p)
            throws IndexOutOfBoundsException, IllegalArgumentException, IllegalStateException {
        needIndex(core, CORES);
        needWithin(p, 0, MAX_POWER);
        needSealed();
        cores.told[core] = p;
    }

    public void sensor(int n, int error, boolean alive)
            throws IndexOutOfBoundsException, IllegalArgumentException, IllegalStateException {
        needIndex(n, NODES);
        needWithin(error, -SENSOR_ERROR, SENSOR_ERROR);
        needSealed();
        nodes.errors[n] = error;
        nodes.alive[n] = alive;
    }

    public boolean ahead(int steps) throws IllegalArgumentException, IllegalStateException {
        needWithin(steps, 0, MAX_STEPS_WORD);
        needSealed();
        for (int k = 0; k < CORES; k++) {
            stepsLookedAt[k] = (steps >> (2 * k)) & 3;
        }
        return outlook.isSafe(nodes.bounds, stepsLookedAt);
    }

    public int node(int n, int what) throws IndexOutOfBoundsException, IllegalStateException {
        needIndex(n, NODES);
        needIndex(what, 4);
        needSealed();
        switch (what) {
            case 0:
                return nodes.truths[n];
            case 1:
                return nodes.bounds[n];
            case 2:
                return nodes.peaks[n];
            default:
                return nodes.alive[n] ? nodes.reading(n) : DEAD_READING;
        }
    }

    public int core(int k, int what) throws IndexOutOfBoundsException, IllegalStateException {
        needIndex(k, CORES);
        needIndex(what, 4);
        needSealed();
        switch (what) {
            case 0:
                return cores.steps[k];
            case 1:
                return cores.wishes[k];
            case 2:
                return cores.waits[k];
            default:
                return cores.trueDraw(k, chip);
        }
    }

    public void open() {
        // What nodes and cores are like begins anew with the sealing.
        chip.reset();
        sealed = false;
    }

    private static void needIndex(int i, int count) {
        if (i < 0 || i >= count) {
            throw new IndexOutOfBoundsException();
        }
    }

    private static void needWithin(int v, int least, int most) {
        if (v < least || v > most) {
            throw new IllegalArgumentException();
        }
    }

    private static void needRange(int low, int high, int least, int most) {
        if (low < least || low > high || high > most) {
            throw new IllegalArgumentException();
        }
    }

    private void needSealed() {
        if (!sealed) {
            throw new IllegalStateException();
        }
    }

    private void needUnsealed() {
        if (sealed) {
            throw new IllegalStateException();
        }
    }

    /** Where the edge of two places stands in a row of edges; each edge stands there both ways. */
    private static int between(int a, int b) {
        return a * PLACES + b;
    }

    /**
     * The numbers of the package, and how heat goes through it. A row of temperatures has a place
     * for each node and, behind them, one for the air.
     */
    private static final class Chip {
        final int[] lowCapacities = new int[NODES];
        final int[] highCapacities = new int[NODES];
        final int[] trueCapacities = new int[NODES];
        final int[] lowEdges = new int[PLACES * PLACES];
        final int[] highEdges = new int[PLACES * PLACES];
        final int[] trueEdges = new int[PLACES * PLACES];
        final int[] limits = new int[NODES];
        final int[] powers = new int[STEPS];
        int trueAir;
        int highAir;
        private int leakBase;
        private int leakSlope;
        private int leakSteep;
        private int leakKnee;
        // All nodes go on at once: what each grows by is found before any is changed.
        private final int[] growths = new int[NODES];

        Chip() {
            reset();
        }

        void reset() {
            Arrays.fill(lowCapacities, FIRST_CAPACITY);
            Arrays.fill(highCapacities, FIRST_CAPACITY);
            Arrays.fill(trueCapacities, FIRST_CAPACITY);
            Arrays.fill(lowEdges, 0);
            Arrays.fill(highEdges, 0);
            Arrays.fill(trueEdges, 0);
            Arrays.fill(limits, FIRST_LIMIT);
            Arrays.fill(powers, 0);
            trueAir = FIRST_AIR;
            highAir = FIRST_AIR;
            setLeak(0, 0, 0, 0);
        }

        void setCapacity(int n, int low, int high) {
            lowCapacities[n] = low;
            highCapacities[n] = high;
            trueCapacities[n] = low;
        }

        void setEdge(int a, int b, int low, int high) {
            lowEdges[between(a, b)] = low;
            lowEdges[between(b, a)] = low;
            highEdges[between(a, b)] = high;
            highEdges[between(b, a)] = high;
            setTrueEdge(a, b, low);
        }

        void setTrueEdge(int a, int b, int v) {
            trueEdges[between(a, b)] = v;
            trueEdges[between(b, a)] = v;
        }

        void setLeak(int base, int slope, int steep, int knee) {
            leakBase = base;
            leakSlope = slope;
            leakSteep = steep;
            leakKnee = knee;
        }

        /** Whether each node is joined with the air by edges, one after the other. */
        boolean isJoined() {
            int joined = 1 << AIR;
            // No node is farther from the air than over all nodes.
            for (int round = 0; round < NODES; round++) {
                joined = withNeighbours(joined);
            }
            return joined == (1 << PLACES) - 1;
        }

        private int withNeighbours(int places) {
            int all = places;
            for (int a = 0; a < PLACES; a++) {
                for (int b = 0; b < PLACES; b++) {
                    if ((places & (1 << a)) != 0 && highEdges[between(a, b)] > 0) {
                        all |= 1 << b;
                    }
                }
            }
            return all;
        }

        /** Whether each node is slow enough for what pulls at it, so that a tick never overshoots. */
        boolean isSteady() {
            for (int n = 0; n < NODES; n++) {
                int pull = n < CORES ? leakSlope + leakSteep : 0;
                for (int other = 0; other < PLACES; other++) {
                    pull += highEdges[between(n, other)];
                }
                if (2 * pull > lowCapacities[n]) {
                    return false;
                }
            }
            return true;
        }

        boolean keepsLimits(int[] bounds) {
            for (int n = 0; n < NODES; n++) {
                if (bounds[n] > limits[n]) {
                    return false;
                }
            }
            return true;
        }

        private int leakAt(int t) {
            int above = t > leakKnee ? t - leakKnee : 0;
            return leakBase + leakSlope * t + leakSteep * above;
        }

        void trueTick(int[] truths, Cores cores) {
            for (int n = 0; n < NODES; n++) {
                int heat = n < CORES ? cores.trueDraw(n, this) + leakAt(truths[n]) : 0;
                for (int other = 0; other < PLACES; other++) {
                    heat += trueEdges[between(n, other)] * (truths[other] - truths[n]);
                }
                growths[n] = Math.floorDiv(heat, trueCapacities[n]);
            }
            grow(truths);
        }

        /** Makes a bound tick; answers whether a bound grew in it. */
        boolean boundTick(int[] bounds, int[] steps) {
            for (int n = 0; n < NODES; n++) {
                int heat = n < CORES ? powers[steps[n]] + leakAt(bounds[n]) : 0;
                growths[n] = worstGrowth(n, heat + worstInflow(n, bounds));
            }
            return grow(bounds);
        }

        private int worstInflow(int n, int[] bounds) {
            int inflow = 0;
            int row = between(n, 0);
            for (int other = 0; other < PLACES; other++) {
                int difference = bounds[other] - bounds[n];
                int[] edges = difference > 0 ? highEdges : lowEdges;
                inflow += edges[row + other] * difference;
            }
            return inflow;
        }

        private int worstGrowth(int n, int heat) {
            int capacity = heat > 0 ? lowCapacities[n] : highCapacities[n];
            // Turned round twice, rounding down is rounding up.
            return -Math.floorDiv(-heat, capacity);
        }

        private boolean grow(int[] temperatures) {
            boolean grew = false;
            for (int n = 0; n < NODES; n++) {
                temperatures[n] += growths[n];
                grew |= growths[n] > 0;
            }
            return grew;
        }
    }

    /** Looks ahead to what comes of bounds if all goes down after a period. */
    private static final class Outlook {
        private final Chip chip;
        private final int[] trial = new int[PLACES];
        private final int[] idle = new int[CORES];

        Outlook(Chip chip) {
            this.chip = chip;
        }

        boolean isSafe(int[] bounds, int[] steps) {
            System.arraycopy(bounds, 0, trial, 0, PLACES);
            boolean below = chip.keepsLimits(trial);
            for (int i = 0; i < HOLD_TICKS && below; i++) {
                chip.boundTick(trial, steps);
                below = chip.keepsLimits(trial);
            }
            boolean growing = true;
            for (int i = 0; i < CALM_TICKS && below && growing; i++) {
                growing = chip.boundTick(trial, idle);
                below = chip.keepsLimits(trial);
            }
            return below && !growing;
        }
    }

    /** What the nodes are like since the package was sealed. */
    private static final class Nodes {
        final int[] truths = new int[PLACES];
        final int[] bounds = new int[PLACES];
        final int[] peaks = new int[NODES];
        final int[] errors = new int[NODES];
        final boolean[] alive = new boolean[NODES];

        void begin(Chip chip) {
            Arrays.fill(truths, chip.trueAir);
            Arrays.fill(bounds, chip.highAir);
            Arrays.fill(peaks, chip.highAir);
            Arrays.fill(errors, 0);
            for (int n = 0; n < NODES; n++) {
                alive[n] = true;
            }
        }

        int reading(int n) {
            return truths[n] + errors[n];
        }

        void passTick(Chip chip, Cores cores) {
            chip.trueTick(truths, cores);
            chip.boundTick(bounds, cores.steps);
            for (int n = 0; n < NODES; n++) {
                if (alive[n]) {
                    bounds[n] = Math.min(bounds[n], reading(n) + SENSOR_ERROR);
                }
                peaks[n] = Math.max(peaks[n], bounds[n]);
            }
        }
    }

    /** What the cores wish for, wait for and were given since the package was sealed. */
    private static final class Cores {
        final int[] steps = new int[CORES];
        final int[] wishes = new int[CORES];
        final int[] ranks = new int[CORES];
        final int[] waits = new int[CORES];
        final int[] told = new int[CORES];
        private final int[] grants = new int[CORES];
        private int ticksHeld;

        void begin() {
            Arrays.fill(steps, 0);
            Arrays.fill(wishes, NO_WISH);
            Arrays.fill(ranks, 0);
            Arrays.fill(waits, 0);
            Arrays.fill(told, 0);
            ticksHeld = 0;
        }

        int trueDraw(int k, Chip chip) {
            return Math.min(told[k], chip.powers[steps[k]]);
        }

        boolean isBusy() {
            for (int k = 0; k < CORES; k++) {
                if (steps[k] > 0) {
                    return true;
                }
            }
            return false;
        }

        void passTick() {
            if (ticksHeld < HOLD_TICKS) {
                ticksHeld++;
            }
            if (ticksHeld == HOLD_TICKS) {
                Arrays.fill(steps, 0);
            }
        }

        /** Grants steps for a period; answers the cores that got less than they wished for, as bits. */
        int beginPeriod(Outlook outlook, int[] bounds) {
            for (int k = 0; k < CORES; k++) {
                grants[k] = Math.max(wishes[k], 0);
            }
            if (!outlook.isSafe(bounds, grants)) {
                grantInTurn(outlook, bounds);
            }
            System.arraycopy(grants, 0, steps, 0, CORES);
            ticksHeld = 0;
            return endWishes();
        }

        private void grantInTurn(Outlook outlook, int[] bounds) {
            Arrays.fill(grants, 0);
            int served = 0;
            for (int turn = 0; turn < CORES; turn++) {
                int k = firstBut(served);
                served |= 1 << k;
                grantGreatest(k, outlook, bounds);
            }
        }

        /** The core that comes first among those not served; there must be one. */
        private int firstBut(int served) {
            int first = 0;
            boolean found = false;
            for (int k = 0; k < CORES; k++) {
                boolean waiting = (served & (1 << k)) == 0;
                if (waiting && (!found || comesBefore(k, first))) {
                    first = k;
                    found = true;
                }
            }
            return first;
        }

        private boolean comesBefore(int k, int other) {
            if (ranks[k] != ranks[other]) {
                return ranks[k] > ranks[other];
            }
            if (waits[k] != waits[other]) {
                return waits[k] > waits[other];
            }
            return k < other;
        }

        private void grantGreatest(int k, Outlook outlook, int[] bounds) {
            for (int step = wishes[k]; step > 0; step--) {
                grants[k] = step;
                if (outlook.isSafe(bounds, grants)) {
                    return;
                }
            }
            grants[k] = 0;
        }

        private int endWishes() {
            int shorted = 0;
            for (int k = 0; k < CORES; k++) {
                if (steps[k] < wishes[k]) {
                    shorted |= 1 << k;
                    waits[k]++;
                } else {
                    waits[k] = 0;
                }
                wishes[k] = NO_WISH;
            }
            return shorted;
        }
    }
}
