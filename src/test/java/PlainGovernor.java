import java.util.ArrayList;
import java.util.HashMap;
import java.util.HashSet;
import java.util.List;
import java.util.Map;
import java.util.Set;

/** The document said again as plainly as can be, without care for speed, to hold HeatGovernor against. */
final class PlainGovernor {
    record Spread(long low, long high, long truly) {
        boolean holds(long v) {
            return low <= v && v <= high;
        }
    }

    private Map<Integer, Spread> capacities;
    private Map<Set<Integer>, Spread> edges;
    private Map<Integer, Long> limits;
    private Spread air;
    private long[] powers;
    private long base;
    private long slope;
    private long steep;
    private long knee;

    private boolean sealed;
    private long[] truths;
    private long[] bounds;
    private long[] peaks;
    private int[] errors;
    private boolean[] dead;
    private int[] steps;
    private int[] wishes;
    private int[] ranks;
    private int[] waits;
    private long[] told;
    private int ticksSincePeriod;

    PlainGovernor() {
        open();
    }

    void open() {
        capacities = new HashMap<>();
        limits = new HashMap<>();
        for (int n = 0; n < 6; n++) {
            capacities.put(n, new Spread(1000, 1000, 1000));
            limits.put(n, 20000L);
        }
        edges = new HashMap<>();
        air = new Spread(5000, 5000, 5000);
        powers = new long[4];
        base = 0;
        slope = 0;
        steep = 0;
        knee = 0;
        sealed = false;
    }

    void capacity(int n, int low, int high) {
        index(n >= 0 && n < 6);
        argument(low >= 1 && low <= high && high <= 10000);
        state(!sealed);
        capacities.put(n, new Spread(low, high, low));
    }

    void edge(int a, int b, int low, int high) {
        index(a >= 0 && a < 7 && b >= 0 && b < 7 && a != b);
        argument(low >= 0 && low <= high && high <= 500);
        state(!sealed);
        edges.remove(Set.of(a, b));
        if (high > 0) {
            edges.put(Set.of(a, b), new Spread(low, high, low));
        }
    }

    void limit(int n, int t) {
        index(n >= 0 && n < 6);
        argument(t >= 0 && t <= 50000);
        state(!sealed);
        limits.put(n, (long) t);
    }

    void air(int low, int truly, int high) {
        argument(0 <= low && low <= truly && truly <= high && high <= 50000);
        state(!sealed);
        air = new Spread(low, high, truly);
    }

    void power(int step, int p) {
        index(step >= 0 && step < 4);
        long[] changed = powers.clone();
        changed[step] = p;
        argument(p >= 0 && p <= 1000000);
        argument(changed[0] <= changed[1] && changed[1] <= changed[2] && changed[2] <= changed[3]);
        state(!sealed);
        powers = changed;
    }

    void leak(int base, int slope, int steep, int knee) {
        argument(base >= 0 && base <= 100000);
        argument(slope >= 0 && slope <= 100 && steep >= 0 && steep <= 100);
        argument(knee >= 0 && knee <= 50000);
        state(!sealed);
        this.base = base;
        this.slope = slope;
        this.steep = steep;
        this.knee = knee;
    }

    void truth(int a, int b, int v) {
        index(a >= 0 && a < 7 && b >= 0 && b < 7 && !(a == 6 && b == 6));
        Spread known = a == b ? capacities.get(a) : edgeOf(a, b);
        argument(known.holds(v));
        state(!sealed);
        Spread changed = new Spread(known.low(), known.high(), v);
        if (a == b) {
            capacities.put(a, changed);
        } else if (edges.containsKey(Set.of(a, b))) {
            edges.put(Set.of(a, b), changed);
        }
    }

    boolean seal() {
        state(!sealed);
        for (int n = 0; n < 6; n++) {
            if (!reachesAir(n, new HashSet<>()) || 2 * pull(n) > capacities.get(n).low()) {
                return false;
            }
        }
        long[] hot = new long[6];
        java.util.Arrays.fill(hot, air.high());
        if (!safe(hot, new int[4])) {
            return false;
        }
        sealed = true;
        bounds = hot;
        peaks = hot.clone();
        truths = new long[6];
        java.util.Arrays.fill(truths, air.truly());
        errors = new int[6];
        dead = new boolean[6];
        steps = new int[4];
        wishes = new int[] {-1, -1, -1, -1};
        ranks = new int[4];
        waits = new int[4];
        told = new long[4];
        ticksSincePeriod = 8;
        return true;
    }

    void ask(int core, int step, int rank) {
        index(core >= 0 && core < 4);
        argument(step >= 0 && step < 4 && rank >= 0 && rank < 10);
        state(sealed);
        wishes[core] = step;
        ranks[core] = rank;
    }

    int period() {
        state(sealed);
        int[] all = new int[4];
        List<Integer> order = new ArrayList<>();
        for (int k = 0; k < 4; k++) {
            if (wishes[k] >= 0) {
                all[k] = wishes[k];
                order.add(k);
            }
        }
        steps = safe(bounds, all) ? all : oneAfterTheOther(order);
        int mask = 0;
        for (int k = 0; k < 4; k++) {
            boolean less = order.contains(k) && steps[k] < wishes[k];
            waits[k] = less ? waits[k] + 1 : 0;
            mask += less ? 1 << k : 0;
            wishes[k] = -1;
        }
        ticksSincePeriod = 0;
        return mask;
    }

    private int[] oneAfterTheOther(List<Integer> order) {
        order.sort((a, b) -> ranks[a] != ranks[b] ? ranks[b] - ranks[a]
                : waits[a] != waits[b] ? waits[b] - waits[a] : a - b);
        int[] given = new int[4];
        for (int k : order) {
            int best = 0;
            for (int step = 0; step <= wishes[k]; step++) {
                int[] tried = given.clone();
                tried[k] = step;
                if (safe(bounds, tried)) {
                    best = step;
                }
            }
            given[k] = best;
        }
        return given;
    }

    int tick(int n) {
        argument(n >= 1 && n <= 100);
        state(sealed);
        int busy = 0;
        for (int i = 0; i < n; i++) {
            busy += steps[0] + steps[1] + steps[2] + steps[3] > 0 ? 1 : 0;
            long[] warmer = afterTrueTick();
            bounds = afterBoundTick(bounds, steps);
            truths = warmer;
            for (int node = 0; node < 6; node++) {
                long most = truths[node] + errors[node] + 200;
                if (!dead[node] && bounds[node] > most) {
                    bounds[node] = most;
                }
                peaks[node] = Math.max(peaks[node], bounds[node]);
            }
            ticksSincePeriod++;
            if (ticksSincePeriod >= 8) {
                steps = new int[4];
            }
        }
        return busy;
    }

    void draw(int core, int p) {
        index(core >= 0 && core < 4);
        argument(p >= 0 && p <= 1000000);
        state(sealed);
        told[core] = p;
    }

    void sensor(int n, int error, boolean alive) {
        index(n >= 0 && n < 6);
        argument(error >= -200 && error <= 200);
        state(sealed);
        errors[n] = error;
        dead[n] = !alive;
    }

    boolean ahead(int word) {
        argument(word >= 0 && word <= 255);
        state(sealed);
        return safe(bounds, new int[] {word % 4, word / 4 % 4, word / 16 % 4, word / 64});
    }

    int node(int n, int what) {
        index(n >= 0 && n < 6 && what >= 0 && what < 4);
        state(sealed);
        long reading = dead[n] ? -1 : truths[n] + errors[n];
        return (int) new long[] {truths[n], bounds[n], peaks[n], reading}[what];
    }

    int core(int k, int what) {
        index(k >= 0 && k < 4 && what >= 0 && what < 4);
        state(sealed);
        return (int) new long[] {steps[k], wishes[k], waits[k], drawn(k)}[what];
    }

    /** Whether no temperature is above its bound and no bound above its limit. */
    boolean withinLimits() {
        for (int n = 0; sealed && n < 6; n++) {
            if (truths[n] > bounds[n] || bounds[n] > limits.get(n)) {
                return false;
            }
        }
        return true;
    }

    private long drawn(int k) {
        return Math.min(told[k], powers[steps[k]]);
    }

    private Spread edgeOf(int a, int b) {
        return edges.getOrDefault(Set.of(a, b), new Spread(0, 0, 0));
    }

    private boolean reachesAir(int place, Set<Integer> seen) {
        if (place == 6) {
            return true;
        }
        seen.add(place);
        for (int next = 0; next < 7; next++) {
            boolean joined = next != place && edgeOf(place, next).high() > 0;
            if (joined && !seen.contains(next) && reachesAir(next, seen)) {
                return true;
            }
        }
        return false;
    }

    private long pull(int n) {
        long sum = n < 4 ? slope + steep : 0;
        for (int other = 0; other < 7; other++) {
            sum += other == n ? 0 : edgeOf(n, other).high();
        }
        return sum;
    }

    private long leakOf(long t) {
        return base + slope * t + (t > knee ? steep * (t - knee) : 0);
    }

    private long[] afterTrueTick() {
        long[] after = new long[6];
        for (int n = 0; n < 6; n++) {
            long heat = n < 4 ? drawn(n) + leakOf(truths[n]) : 0;
            for (int other = 0; other < 7; other++) {
                if (other != n) {
                    heat += edgeOf(n, other).truly() * ((other == 6 ? air.truly() : truths[other]) - truths[n]);
                }
            }
            after[n] = truths[n] + down(heat, capacities.get(n).truly());
        }
        return after;
    }

    private long[] afterBoundTick(long[] before, int[] by) {
        long[] after = new long[6];
        for (int n = 0; n < 6; n++) {
            long heat = n < 4 ? powers[by[n]] + leakOf(before[n]) : 0;
            for (int other = 0; other < 7; other++) {
                if (other != n) {
                    long more = (other == 6 ? air.high() : before[other]) - before[n];
                    heat += more > 0 ? edgeOf(n, other).high() * more : edgeOf(n, other).low() * more;
                }
            }
            Spread capacity = capacities.get(n);
            after[n] = before[n] + (heat > 0 ? up(heat, capacity.low()) : up(heat, capacity.high()));
        }
        return after;
    }

    private boolean safe(long[] from, int[] by) {
        long[] now = from;
        boolean good = below(now);
        for (int i = 0; i < 8 && good; i++) {
            now = afterBoundTick(now, by);
            good = below(now);
        }
        for (int i = 0; i < 250 && good; i++) {
            long[] next = afterBoundTick(now, new int[4]);
            good = below(next);
            boolean grows = false;
            for (int n = 0; n < 6; n++) {
                grows = grows || next[n] > now[n];
            }
            if (good && !grows) {
                return true;
            }
            now = next;
        }
        return false;
    }

    private boolean below(long[] temperatures) {
        for (int n = 0; n < 6; n++) {
            if (temperatures[n] > limits.get(n)) {
                return false;
            }
        }
        return true;
    }

    private static long down(long a, long b) {
        return a >= 0 ? a / b : -((-a + b - 1) / b);
    }

    private static long up(long a, long b) {
        return a >= 0 ? (a + b - 1) / b : -(-a / b);
    }

    private static void index(boolean good) {
        if (!good) {
            throw new IndexOutOfBoundsException();
        }
    }

    private static void argument(boolean good) {
        if (!good) {
            throw new IllegalArgumentException();
        }
    }

    private static void state(boolean good) {
        if (!good) {
            throw new IllegalStateException();
        }
    }
}
