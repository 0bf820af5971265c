/** "Terms", sentence by sentence: the last number on this side of each boundary, and the first on the other. */
public final class TermsEdgesTest {
    private static final Sentences TERMS = new Sentences("TermsEdgesTest");
    private static final int CORES = Runs.CORES;
    private static final int NODES = Runs.NODES;
    private static final String STAR = Runs.STAR;

    /** As STAR, but so that a core loses 500 for each degree above the air. */
    private static final String STRONG = Runs.each(NODES, "edge % 6 500 500");

    /** As STAR, but so that a core, though it leaks with 100, comes to rest. */
    private static final String FIRM = Runs.each(NODES, "edge % 6 400 400");

    /** As STAR, with capacities and so little going over that a bound goes by one a tick at most. */
    private static final String SLOW = STAR + Runs.each(NODES, "capacity % 10000 10000");

    /** A core's bound grows by 10, 20 or 30 a tick at step 1, 2 or 3, so by 80, 160 or 240 in a period. */
    private static final String TENS = STAR + "power 3 30000\npower 2 20000\npower 1 10000\n";

    private static final String ALL_DEAD = Runs.each(NODES, "sensor % 0 false");

    private TermsEdgesTest() {
    }

    public static void main(String[] args) {
        TERMS.section("Terms");
        nodes();
        temperatures();
        rangesAtFirst();
        powers();
        leaks();
        trueTicks();
        boundTicks();
        safety();
        sealing();
        wishes();
        granting();
        order();
        oneTurnEach();
        waiting();
        ticks();
        sensors();
        peaks();
        exceptions();
        TERMS.end();
    }

    private static void nodes() {
        String words = "cores 0 .. 3, the spreader 4 and the board 5; and the AIR, 6";
        TERMS.holds(words, "before it is sealed", Runs.each(NODES, "capacity % 1000 1000"),
                Runs.index("capacity -1 1000 1000", "capacity 6 1000 1000"), Runs.each(NODES, "limit % 20000"),
                Runs.index("limit -1 20000", "limit 6 20000"), Runs.each(NODES, "truth % % 1000"),
                Runs.index("truth -1 -1 1000", "truth 6 6 1000"), Runs.each(NODES, "edge % 6 1 1"),
                Runs.each(NODES, "edge 6 % 1 1"),
                Runs.index("edge -1 6 1 1", "edge 7 6 1 1", "edge 6 -1 1 1", "edge 6 7 1 1"),
                Runs.each(NODES, "truth 6 % 1"),
                Runs.index("truth 6 -1 0", "truth 6 7 0", "truth -1 6 0", "truth 7 6 0"));
        TERMS.holds(words, "when it is sealed", STAR, "seal -> true", Runs.each(NODES, "node % 0 -> 5000"),
                Runs.index("node -1 0", "node 6 0"), Runs.each(NODES, "sensor % 0 true"),
                Runs.index("sensor -1 0 true", "sensor 6 0 true"), Runs.each(CORES, "core % 0 -> 0"),
                Runs.index("core -1 0", "core 4 0"), Runs.each(CORES, "ask % 0 0"),
                Runs.index("ask -1 0 0", "ask 4 0 0"), Runs.each(CORES, "draw % 0"),
                Runs.index("draw -1 0", "draw 4 0"));
        TERMS.holds("A core draws a POWER", "the last core does, and the spreader does not", STRONG,
                "power 3 1000\npower 2 1000\npower 1 1000\npower 0 1000", "seal -> true",
                Runs.each(CORES, "draw % 1000"), "tick 1 -> 0", Runs.each(CORES, "node % 0 -> 5001"),
                Runs.each(CORES, "node % 1 -> 5001"), "node 4 0 -> 5000", "node 4 1 -> 5000", "node 5 0 -> 5000",
                "node 5 1 -> 5000");
    }

    private static void temperatures() {
        String words = "TEMPERATURES are whole numbers 0 .. 50000";
        TERMS.holds(words, "as they are told", Runs.each(NODES, "limit % 0"), Runs.each(NODES, "limit % 50000"),
                Runs.argument(Runs.each(NODES, "limit % -1"), Runs.each(NODES, "limit % 50001")), "air 0 0 0",
                "air 50000 50000 50000", Runs.argument("air -1 0 0", "air 50000 50000 50001"), "leak 0 0 0 0",
                "leak 0 0 0 50000", Runs.argument("leak 0 0 0 -1", "leak 0 0 0 50001"));
        TERMS.holds(words, "0 everywhere", STAR, Runs.each(NODES, "limit % 0"), "air 0 0 0", "seal -> true",
                "tick 100 -> 0", Runs.each(NODES, "node % 0 -> 0"), Runs.each(NODES, "node % 1 -> 0"));
        TERMS.holds(words, "50000 everywhere", STAR, Runs.each(NODES, "limit % 50000"), "air 50000 50000 50000",
                "seal -> true", "tick 100 -> 0", Runs.each(NODES, "node % 0 -> 50000"),
                Runs.each(NODES, "node % 1 -> 50000"));
        // The bound of a core with 125 grows by 1 in each of the eight ticks.
        String climb = STAR + Runs.each(NODES, "limit % 50000") + "power 3 125\n";
        TERMS.holds(words, "a bound may come to 50000", climb, "air 49992 49992 49992", "seal -> true",
                "ahead 3 -> true", "ask 0 3 0", "period -> 0", "tick 8 -> 8", "node 0 1 -> 50000");
        TERMS.holds(words, "but not to 50001", climb, "air 49993 49993 49993", "seal -> true", "ahead 3 -> false",
                "ask 0 3 0", "period -> 1", "core 0 0 -> 2", "tick 8 -> 8", "node 0 1 -> 49993");
        TERMS.holds(words, "none falls below 0", STAR, "air 0 0 0", "power 3 1000", "seal -> true", "ask 0 3 0",
                "draw 0 1000", "period -> 0", "tick 1 -> 1", "node 0 0 -> 1", "period -> 0", "tick 1 -> 0",
                "node 0 0 -> 0", "tick 1 -> 0", "node 0 0 -> 0", "node 0 1 -> 1");
    }

    private static void rangesAtFirst() {
        TERMS.holds("(at first both 1000)", "nothing else is within", Runs.each(NODES, "truth % % 1000"),
                Runs.argument(Runs.each(NODES, "truth % % 999"), Runs.each(NODES, "truth % % 1001")));
        TERMS.holds("and truly one between; two nodes", "low and high are", Runs.each(NODES, "capacity % 20 30"),
                Runs.each(NODES, "truth % % 20"), Runs.each(NODES, "truth % % 30"),
                Runs.argument(Runs.each(NODES, "truth % % 19"), Runs.each(NODES, "truth % % 31")));
        for (int a = 0; a <= NODES; a++) {
            for (int b = 0; b <= NODES; b++) {
                edgeOf(a, b);
            }
        }
        TERMS.holds("(at first both 5000), truly one between", "neither less nor more", STAR, "limit 5 4999",
                "seal -> false", "limit 5 5000", "seal -> true", Runs.each(NODES, "node % 0 -> 5000"),
                Runs.each(NODES, "node % 1 -> 5000"));
        TERMS.holds("(at first both 5000), truly one between", "low and high are", "air 7 7 9", "air 7 9 9",
                Runs.argument("air 7 6 9", "air 7 10 9"));
    }

    private static void edgeOf(int a, int b) {
        String words = "two nodes, or a node and the air, may have an EDGE, with a CONDUCTANCE likewise";
        String edge = "edge " + a + " " + b + " ";
        String truth = "truth " + a + " " + b + " ";
        if (a == b) {
            TERMS.holds(words, edge, Runs.index(edge + "7 9"));
        } else {
            TERMS.holds(words, edge, edge + "7 9", truth + "7", truth + "9", Runs.argument(truth + "6", truth + "10"));
        }
    }

    private static void powers() {
        TERMS.holds("There are STEPS 0 .. 3", "no step below and none above", Runs.each(4, "power % 0"),
                Runs.index("power -1 0", "power 4 0"), STAR, "seal -> true", Runs.each(4, "ask 0 % 0"),
                Runs.argument("ask 0 -1 0", "ask 0 4 0"));
        String rising = "power 3 40\npower 2 30\npower 1 20\npower 0 10\n";
        String words = "P[0] <= P[1] <= P[2] <= P[3]";
        TERMS.holds(words, "of step 0", rising, "power 0 20", Runs.argument("power 0 21"), "power 0 0",
                Runs.argument("power 0 -1"));
        TERMS.holds(words, "of step 1", rising, "power 1 10", "power 1 30", Runs.argument("power 1 9", "power 1 31"));
        TERMS.holds(words, "of step 2", rising, "power 2 20", "power 2 40", Runs.argument("power 2 19", "power 2 41"));
        TERMS.holds(words, "of step 3", rising, "power 3 30", Runs.argument("power 3 29"), "power 3 1000000",
                Runs.argument("power 3 1000001"));
        TERMS.holds("(at first all 0)", "each of them", Runs.argument("power 0 1", "power 1 1", "power 2 1"),
                "power 3 1", Runs.argument("power 0 1", "power 1 1"), "power 2 1");
    }

    private static void leaks() {
        String words = "if t is above the KNEE, steep * (t - knee) more";
        // A core at 5000: 900 is not enough for one degree more, 900 and 100 * (5000 - 4999) are.
        leaking(words, "t is the knee", "leak 900 0 100 5000", 5000, 5001);
        leaking(words, "t is above it by 1", "leak 900 0 100 4999", 5001, 5001);
        leaking(words, "t is above it by 2", "leak 900 0 100 4998", 5001, 5002);
        // And below the knee nothing is taken away.
        leaking(words, "t is below it by 1", "leak 1000 0 100 5001", 5001, 5001);
        leaking(words, "t is far below it", "leak 1001 0 100 50000", 5001, 5002);
        String atZero = FIRM + "leak 0 0 100 0\n";
        TERMS.holds(words, "t is 0, and so is the knee", atZero, "air 0 0 0", "seal -> true", "tick 1 -> 0",
                "node 0 1 -> 0");
        TERMS.holds(words, "t is 1, and the knee 0", atZero, "air 1 1 1", "seal -> true", "tick 1 -> 0",
                "node 0 1 -> 2");
        leaking("base + slope * t", "slope * t to one degree", "leak 0 1 0 0", 5005, 5005);
        leaking("base + slope * t", "one less than a degree", "leak 999 0 0 0", 5000, 5001);
        leaking("base + slope * t", "a degree", "leak 1000 0 0 0", 5001, 5001);
        leaking("base + slope * t", "one more than a degree", "leak 1001 0 0 0", 5001, 5002);
        leaking("(at first base, slope, steep and the knee are 0)", "nothing leaks", "limit 0 5000", 5000, 5000);
    }

    /** One tick of a package at 5000 in which each core leaks. */
    private static void leaking(String words, String what, String told, int truth, int bound) {
        TERMS.holds(words, what, FIRM, told, "seal -> true", "tick 1 -> 0", Runs.each(CORES, "node % 0 -> " + truth),
                Runs.each(CORES, "node % 1 -> " + bound), "node 4 0 -> 5000", "node 4 1 -> 5000", "node 5 1 -> 5000");
    }

    private static void trueTicks() {
        warming(0, 5000);
        warming(1, 5000);
        warming(999, 5000);
        warming(1000, 5001);
        warming(1999, 5001);
        warming(2000, 5002);
        // What is above the air by d loses d * conductance / 1000, and one more for any rest.
        cooling(1, 1, 5000);
        cooling(3, 333, 5002);
        cooling(8, 125, 5007);
        cooling(7, 143, 5005);
        cooling(4, 500, 5002);
        // The spreader gets 9 * 111 or 8 * 125 from core 0, which has been warmed in the tick before.
        spreading(9, 111, 5000);
        spreading(8, 125, 5001);
        String ranged = STAR + "power 3 1000\ncapacity 0 999 1001\n";
        String tick = "seal -> true\nask 0 3 0\ndraw 0 1000\nperiod -> 0\ntick 1 -> 1\n";
        TERMS.holds("heat / true capacity, rounded down", "of 1000", ranged, "truth 0 0 1000", tick,
                "node 0 0 -> 5001");
        TERMS.holds("heat / true capacity, rounded down", "of 1001", ranged, "truth 0 0 1001", tick,
                "node 0 0 -> 5000");
        TERMS.holds("(All nodes at once.)", "the next one warms a tick later", STAR, """
                edge 0 1 200 200
                edge 1 2 200 200
                power 3 5000
                seal -> true
                ask 0 3 0
                draw 0 5000
                period -> 0
                tick 1 -> 1
                node 0 0 -> 5005
                node 1 0 -> 5000
                node 1 1 -> 5000
                node 2 1 -> 5000
                tick 1 -> 1
                node 0 0 -> 5008
                node 0 1 -> 5009
                node 1 0 -> 5001
                node 1 1 -> 5001
                node 2 1 -> 5000
                tick 1 -> 1
                node 2 0 -> 5000
                node 2 1 -> 5001
                """);
    }

    private static void warming(int draw, int due) {
        TERMS.holds("its true temperature grows by heat / true capacity, rounded down", "warmed by " + draw, STAR,
                "power 3 2000", "seal -> true", "ask 0 3 0", "draw 0 " + draw, "period -> 0", "tick 1 -> 1",
                "node 0 0 -> " + due);
    }

    private static void cooling(int above, int conductance, int due) {
        TERMS.holds("its true temperature grows by heat / true capacity, rounded down",
                above + " above by " + conductance, STAR, "edge 0 6 " + conductance + " " + conductance,
                "power 3 " + above * 1000, "seal -> true", "ask 0 3 0", "draw 0 " + above * 1000, "period -> 0",
                "tick 1 -> 1", "node 0 0 -> " + (5000 + above), "period -> 0", "tick 1 -> 0", "node 0 0 -> " + due);
    }

    private static void spreading(int above, int conductance, int due) {
        TERMS.holds("its true temperature grows by heat / true capacity, rounded down",
                "beside one " + above + " above by " + conductance, STAR, "edge 0 4 " + conductance + " " + conductance,
                "power 3 9000", "seal -> true", "ask 0 3 0", "draw 0 " + above * 1000, "period -> 0", "tick 1 -> 1",
                "node 0 0 -> " + (5000 + above), "tick 1 -> 1", "node 4 0 -> " + due);
    }

    private static void boundTicks() {
        String words = "the conductance being the high one if that is above 0, and the low one if not";
        // The sensor brings the bound to 5000, with the air 1 above, as high, or below it; then it dies.
        String clipped = STAR + "edge 0 6 0 9\npower 3 1001\npower 2 1000\npower 1 1000\n";
        String free = "seal -> true\ntick 1 -> 0\nnode 0 1 -> 5000\n" + ALL_DEAD;
        TERMS.holds(words, "the air is above by 1", clipped, "air 4800 4800 5001", free, "tick 1 -> 0",
                "node 0 1 -> 5001");
        TERMS.holds(words, "the air is as high", clipped, "air 4800 4800 5000", free, "tick 1 -> 0",
                "node 0 1 -> 5000");
        // 1001 is more than one degree only as long as nothing is taken from it.
        TERMS.holds(words, "the air is below by 1", clipped, "air 5000 5000 5000", free, "ask 0 2 0", "period -> 0",
                "tick 1 -> 1", "node 0 1 -> 5001", "ask 0 3 0", "period -> 0", "tick 1 -> 1", "node 0 1 -> 5003");
        TERMS.holds(words, "the low one is not 0", STAR, "edge 0 6 4 5", "power 3 1009", "seal -> true", ALL_DEAD,
                "ask 0 3 0", "period -> 0", "tick 1 -> 1", "node 0 1 -> 5002", "tick 1 -> 1", "node 0 1 -> 5004");
        TERMS.holds("the air's bound being its high temperature", "neither the true nor the low one", STAR,
                "air 0 4800 9000", "seal -> true", "tick 1 -> 0", "node 0 1 -> 5000", ALL_DEAD, "tick 1 -> 0",
                "node 0 1 -> 5004");
        rounding("no heat", 0, 5000);
        rounding("the least heat", 1, 5001);
        rounding("heat for a degree", 1000, 5001);
        rounding("one more", 1001, 5002);
        String up = "The bound grows by heat / capacity, rounded up";
        TERMS.holds(up, "of the spreader, by 1 from a core that is 1 above", STAR, "edge 0 4 1 1", "power 3 1000",
                "seal -> true", "ask 0 3 0", "period -> 0", "tick 1 -> 1", "node 4 1 -> 5000", "tick 1 -> 1",
                "node 4 1 -> 5001");
        // Above the air by 4, 2 and 1 it loses 2000, 1000 and 500; by 3 it loses 1500.
        String four = "power 3 4000\nseal -> true\n" + ALL_DEAD
                + "ask 0 3 0\nperiod -> 0\ntick 1 -> 1\nnode 0 1 -> 5004\nperiod -> 0\n";
        TERMS.holds(up, "falling", STRONG, four, "tick 1 -> 0", "node 0 1 -> 5002", "tick 1 -> 0", "node 0 1 -> 5001",
                "tick 1 -> 0", "node 0 1 -> 5001");
        TERMS.holds(up, "falling with a rest", STRONG, four.replace("4000", "3000").replace("5004", "5003"),
                "tick 1 -> 0", "node 0 1 -> 5002", "tick 1 -> 0", "node 0 1 -> 5001");
        String sign = "the capacity being the low one if the heat is above 0, the high one if not";
        TERMS.holds(sign, "2000 is 2 up, and 1 down", STRONG, "capacity 0 1000 2000", four, "tick 1 -> 0",
                "node 0 1 -> 5003", "tick 1 -> 0", "node 0 1 -> 5003");
        TERMS.holds(sign, "1000 is not 1 down of 1001", STRONG, "capacity 0 1000 1001",
                four.replace("4000", "2000").replace("5004", "5002"), "tick 1 -> 0", "node 0 1 -> 5002");
        TERMS.holds(sign, "heat that comes to 0", STRONG, "capacity 0 1000 2000", "power 3 1000", "seal -> true",
                ALL_DEAD, "ask 0 3 0", "period -> 0", "tick 1 -> 1", "node 0 1 -> 5001", "tick 1 -> 1",
                "node 0 1 -> 5002", "tick 6 -> 6", "node 0 1 -> 5002");
    }

    private static void rounding(String what, int power, int due) {
        TERMS.holds("The bound grows by heat / capacity, rounded up", what, STAR, "power 3 " + power, "seal -> true",
                "ask 0 3 0", "period -> 0", "tick 1 -> 1", "node 0 1 -> " + due);
    }

    private static void safety() {
        String above = "no bound at the beginning or after any of these ticks is above its node's LIMIT";
        for (int n = 0; n < NODES; n++) {
            TERMS.holds(above, "at the beginning, node " + n, STAR, "limit " + n + " 4999", "seal -> false",
                    "limit " + n + " 5000", "seal -> true");
        }
        for (int k = 0; k < CORES; k++) {
            String limit = "limit " + k + " ";
            String ahead = "ahead " + (1 << (2 * k));
            TERMS.holds(above, "after the eighth, core " + k, TENS, limit + "5080", "seal -> true", ahead + " -> true");
            TERMS.holds(above, "too hot after the eighth, core " + k, TENS, limit + "5079", "seal -> true",
                    ahead + " -> false");
        }
        lateHeat(above);
        heatOnTheWay(above);
        String eight = "eight bound ticks by the steps, and then bound ticks by steps 0";
        // Step 3 goes on for the eighth tick, to 5240, and not for a ninth, to 5270.
        TERMS.holds(eight, "neither seven nor nine", TENS, "limit 0 5239", "limit 1 5240", "seal -> true",
                "ahead 3 -> false", "ahead 12 -> true", "ask 0 3 0", "ask 1 3 0", "period -> 1", "tick 8 -> 8",
                "node 1 1 -> 5200", "core 0 0 -> 0");
        String most = "until one is made in which no bound grows, 250 at most";
        // P[0] drives a core up by one a tick: 8 and 249 times, and the last of 250 brings nothing more.
        TERMS.holds(most, "the last of 250 is such a one", SLOW, "power 3 257\npower 2 257\npower 1 257\npower 0 257",
                "seal -> true");
        TERMS.holds(most, "the one behind would be", SLOW, "power 3 258\npower 2 258\npower 1 258\npower 0 258",
                "seal -> false", "power 0 257", "seal -> true");
        // From 4743 a bound comes to 5000 in 8 and 249 ticks.
        String made = "and such a one (in which none grows) is made";
        TERMS.holds(made, "from where it comes in time, and from one below", SLOW, """
                air 4600 4600 5000
                seal -> true
                sensor 1 0 false
                sensor 2 0 false
                sensor 3 0 false
                sensor 4 0 false
                sensor 5 0 false
                sensor 0 -57 true
                tick 1 -> 0
                node 0 1 -> 4743
                ahead 0 -> true
                sensor 0 -58 true
                tick 1 -> 0
                node 0 1 -> 4742
                ahead 0 -> false
                """);
        TERMS.holds(made, "the first of the 250 is enough", STAR, "power 3 125", "seal -> true", "ahead 3 -> true",
                "ask 0 3 0", "period -> 0", "tick 8 -> 8", "node 0 1 -> 5008", "tick 1 -> 0", "node 0 1 -> 5008");
    }

    /** The spreader is at 5050 at the end of the eight ticks, and goes on to 5071 by what comes from core 0. */
    private static void lateHeat(String words) {
        String joined = TENS + "edge 0 4 100 100\nedge 4 6 100 100\n";
        TERMS.holds(words, "among the 250", joined, "limit 4 5071", "seal -> true", "ahead 3 -> true");
        TERMS.holds(words, "too hot among the 250", joined, "limit 4 5070", "seal -> true", "ahead 3 -> false");
        TERMS.holds(words, "as it then comes", joined, "limit 4 5071", "seal -> true", ALL_DEAD, "ask 0 3 0",
                "period -> 0", "tick 8 -> 8", "node 4 1 -> 5050", "tick 5 -> 0", "node 4 1 -> 5071", "tick 2 -> 0",
                "node 4 1 -> 5070", "node 4 2 -> 5071");
    }

    /** Behind a period at step 3, one at step 1 has the spreader at 5070 after three ticks, at 5065 after eight. */
    private static void heatOnTheWay(String words) {
        String joined = TENS + "edge 0 4 200 200\nedge 4 6 200 200\n";
        String hot = "seal -> true\n" + ALL_DEAD + "ask 0 3 0\nperiod -> 0\ntick 8 -> 8\nnode 4 1 -> 5059\n";
        TERMS.holds(words, "among the eight", joined, "limit 4 5070", hot, "ahead 1 -> true", "ask 0 1 0",
                "period -> 0", "tick 3 -> 3", "node 4 1 -> 5070", "tick 5 -> 5", "node 4 1 -> 5065");
        TERMS.holds(words, "too hot among the eight", joined, "limit 4 5069", hot, "ahead 1 -> false", "ask 0 1 0",
                "period -> 1");
    }

    private static void sealing() {
        TERMS.holds("Before the package is SEALED its numbers can be changed", "and not from then on", STAR,
                "limit 0 6000", "limit 0 5000", "seal -> true", Runs.state("limit 0 6000"), "open", "limit 0 6000");
        String joined = "each node is joined with the air by edges, one after the other";
        TERMS.holds(joined, "none is", "seal -> false");
        for (int n = 0; n < NODES; n++) {
            TERMS.holds(joined, "all but node " + n, STAR, "edge " + n + " 6 0 0", "seal -> false",
                    "edge 6 " + n + " 0 1", "seal -> true");
        }
        TERMS.holds(joined, "the longest way, with the last edge missing", "edge 0 1 0 1", "edge 1 2 0 1",
                "edge 2 3 0 1", "edge 3 4 0 1", "edge 5 6 0 1", "seal -> false", "edge 4 5 0 1", "seal -> true");
        TERMS.holds(joined, "the longest way, without the air", "edge 5 4 1 1", "edge 4 3 1 1", "edge 3 2 1 1",
                "edge 2 1 1 1", "edge 1 0 1 1", "edge 5 0 1 1", "seal -> false", "edge 0 6 1 1", "seal -> true");
        steadiness();
        String safe = "all bounds, being the air's high temperature, are safe with steps 0";
        TERMS.holds(safe, "the high one, not the true one", STAR, "limit 3 6999", "air 0 0 7000", "seal -> false",
                "air 0 0 6999", "seal -> true");
        TERMS.holds(safe, "P[0] and no other power", SLOW, "limit 0 5002", "power 3 1000000", "power 2 3", "power 1 3",
                "power 0 3", "seal -> false", "power 0 2", "seal -> true");
        TERMS.holds("its bound the air's high one; all steps are 0, and no wishes are there", "with a range", STAR,
                "air 10 20 30", "seal -> true", Runs.each(NODES, "node % 0 -> 20"), Runs.each(NODES, "node % 1 -> 30"),
                Runs.each(NODES, "node % 2 -> 30"), Runs.each(CORES, "core % 0 -> 0"),
                Runs.each(CORES, "core % 1 -> -1"), Runs.each(CORES, "core % 2 -> 0"));
    }

    private static void steadiness() {
        String words = "for each node twice the sum of the high conductances of its edges, and, for a core, "
                + "twice slope + steep, is not above its low capacity";
        for (int n = 0; n < NODES; n++) {
            String capacity = "capacity " + n + " ";
            int next = (n + 1) % NODES;
            TERMS.holds(words, "two edges of node " + n, STAR, "edge " + n + " 6 1 30",
                    "edge " + next + " " + n + " 1 20", capacity + "99 10000", "seal -> false", capacity + "100 10000",
                    "seal -> true");
            TERMS.holds(words, "the least capacity of node " + n, STAR, capacity + "1 10000", "seal -> false",
                    capacity + "2 10000", "seal -> true");
        }
        // Six edges of 500 make 3000.
        String full = Runs.each(NODES, "capacity % 10000 10000") + allEdges() + "air 0 0 0\n";
        TERMS.holds(words, "all edges there can be", full, "capacity 2 5999 10000", "seal -> false",
                "capacity 2 6000 10000", "seal -> true");
        for (int n = 0; n < NODES; n++) {
            int pull = n < CORES ? 2 * (500 + 7 + 5) : 2 * 500;
            String capacity = "capacity " + n + " ";
            TERMS.holds(words, "slope and steep at node " + n, Runs.each(NODES, "capacity % 2000 2000"), STRONG,
                    "air 0 0 0", "leak 0 7 5 50000", capacity + (pull - 1) + " 10000", "seal -> false",
                    capacity + pull + " 10000", "seal -> true");
        }
        // Just enough for an edge of 500 and 100 more.
        String room = Runs.each(NODES, "capacity % 1200 1200") + STRONG + "air 0 0 0\n";
        TERMS.holds(words, "slope alone", room, "leak 0 100 1 50000", "seal -> false", "leak 0 100 0 50000",
                "seal -> true");
        TERMS.holds(words, "steep alone", room, "leak 0 1 100 50000", "seal -> false", "leak 0 0 100 50000",
                "seal -> true");
    }

    private static String allEdges() {
        StringBuilder rows = new StringBuilder();
        for (int a = 0; a < NODES; a++) {
            for (int b = a + 1; b <= NODES; b++) {
                rows.append("edge " + a + " " + b + " 500 500\n");
            }
        }
        return rows.toString();
    }

    private static void wishes() {
        String words = "with a RANK 0 .. 9; the latest wish counts";
        TERMS.holds(words, "the least and the greatest rank", TENS, "seal -> true", Runs.each(10, "ask 0 1 %"),
                Runs.argument("ask 0 1 -1", "ask 0 1 10"));
        // Three steps bring the spreader to 5056, whichever cores have them; it may come no further.
        String one = TENS + "edge 0 4 100 100\nedge 1 4 100 100\nedge 4 6 100 100\nlimit 4 5056\nseal -> true\n"
                + "ahead 3 -> true\nahead 12 -> true\nahead 7 -> false\nahead 13 -> false\n";
        TERMS.holds(words, "9 goes before 8", one, "ask 0 3 8", "ask 1 3 9", "period -> 1", "core 0 0 -> 0",
                "core 1 0 -> 3");
        TERMS.holds(words, "1 goes before 0", one, "ask 0 3 0", "ask 1 3 1", "period -> 1", "core 0 0 -> 0",
                "core 1 0 -> 3");
        TERMS.holds(words, "the same: the lesser number", one, "ask 0 3 9", "ask 1 3 9", "period -> 2", "core 0 0 -> 3",
                "core 1 0 -> 0");
        TERMS.holds(words, "a later wish for less", TENS, "seal -> true", "ask 0 3 0", "ask 0 0 0", "core 0 1 -> 0",
                "period -> 0", "core 0 0 -> 0");
        TERMS.holds(words, "a later wish for more, of a lesser rank", one, "ask 0 3 1", "ask 1 1 9", "ask 1 3 0",
                "period -> 2", "core 0 0 -> 3", "core 1 0 -> 0");
    }

    private static void granting() {
        TERMS.holds("the cores without a wish (that came since the last period began) get step 0",
                "a wish of the period before", TENS, "seal -> true", "ask 0 3 0", "ask 1 2 0", "period -> 0",
                "core 0 0 -> 3", "core 1 0 -> 2", "ask 1 1 0", "period -> 0", "core 0 0 -> 0", "core 1 0 -> 1",
                "period -> 0", "core 1 0 -> 0");
        String all = Runs.each(CORES, "ask % 3 0");
        TERMS.holds("If the bounds are safe with all wishes, each core that has one gets it", "at all limits", TENS,
                Runs.each(CORES, "limit % 5240"), "seal -> true", all, "period -> 0",
                Runs.each(CORES, "core % 0 -> 3"));
        for (int k = 0; k < CORES; k++) {
            TERMS.holds("each gets the greatest step, not above its wish", "core " + k + " with one degree too few",
                    TENS, Runs.each(CORES, "limit % 5240"), "limit " + k + " 5239", "seal -> true", all,
                    "period -> " + (1 << k),
                    Runs.each(CORES, "core % 0 -> 3").replace("core " + k + " 0 -> 3", "core " + k + " 0 -> 2"));
        }
        String greatest = "each gets the greatest step, not above its wish";
        granted(greatest, 3, 5240, 3);
        granted(greatest, 3, 5239, 2);
        granted(greatest, 3, 5160, 2);
        granted(greatest, 3, 5159, 1);
        granted(greatest, 3, 5080, 1);
        granted(greatest, 2, 5240, 2);
        granted(greatest, 1, 5240, 1);
        granted(greatest, 0, 5240, 0);
        granted("(step 0, if none is)", 3, 5079, 0);
        granted("(step 0, if none is)", 1, 5079, 0);
        granted("(step 0, if none is)", 0, 5000, 0);
    }

    /** What core 0 gets when it must be looked at by itself, core 3 having no room for its wish. */
    private static void granted(String words, int wish, int limit, int step) {
        TERMS.holds(words, "a wish for " + wish + " below " + limit, TENS, "limit 0 " + limit, "limit 3 5000",
                "seal -> true", "ask 0 " + wish + " 0", "ask 3 1 9", "period -> " + (step < wish ? 9 : 8),
                "core 0 0 -> " + step, "core 3 0 -> 0");
    }

    /** Three cores that wish for the three steps that there are, with the same rank and with others. */
    private static void order() {
        String words = "in order (greater rank first, then the one that WAITS longer, then the lesser number)";
        String three = TENS + "edge 0 4 100 100\nedge 1 4 100 100\nedge 2 4 100 100\nedge 4 6 100 100\n"
                + "limit 4 5047\nseal -> true\nahead 3 -> true\nahead 12 -> true\nahead 48 -> true\nahead 7 -> false\n";
        for (int rank = 0; rank <= 9; rank++) {
            String all = Runs.each(3, "ask % 3 " + rank);
            TERMS.holds(words, "the same rank, " + rank, three, all, "period -> 6", "core 0 0 -> 3", waits(0, 1, 1),
                    all, "period -> 5", "core 1 0 -> 3", waits(1, 0, 2), all, "period -> 3", "core 2 0 -> 3",
                    waits(2, 1, 0), all, "period -> 6", "core 0 0 -> 3", waits(0, 2, 1));
        }
        for (int rank = 0; rank < 9; rank++) {
            String all = Runs.each(3, "ask % 3 " + rank);
            TERMS.holds(words, "one more than " + rank, three, all, "period -> 6", all, "period -> 5", all,
                    "ask 0 3 " + (rank + 1), "period -> 6", "core 0 0 -> 3", waits(0, 1, 3));
        }
    }

    /** Core 3 is known to be cold in hot air: it comes to rest within 250 ticks only if it is driven up. */
    private static void oneTurnEach() {
        String words = "safe with it, what was given before, and step 0 for the others";
        String cold = STAR
                + "capacity 3 10000 10000\nair 4000 4000 5000\nlimit 2 5000\npower 3 1000000\npower 2 500000\n"
                + "power 1 500000\nseal -> true\n" + ALL_DEAD + "sensor 3 0 true\ntick 1 -> 0\nnode 3 1 -> 4200\n"
                + "ahead 0 -> false\nahead 3 -> false\nahead 64 -> false\nahead 128 -> false\nahead 192 -> true\n"
                + "ahead 195 -> true\n";
        TERMS.holds(words, "what comes behind does not help", cold, "ask 0 3 9", "ask 3 3 5", "ask 2 3 0",
                "period -> 5", "core 0 0 -> 0", "core 3 0 -> 3", "core 2 0 -> 0");
        TERMS.holds(words, "what comes before does", cold, "ask 0 3 4", "ask 3 3 5", "ask 2 3 0", "period -> 4",
                "core 0 0 -> 3", "core 3 0 -> 3", "core 2 0 -> 0");
        TERMS.holds("the greatest step, not above its wish", "though no lesser one is safe", cold, "ask 3 3 0",
                "ask 2 1 0", "period -> 4", "core 3 0 -> 3", "core 2 0 -> 0");
        TERMS.holds("(step 0, if none is)", "though step 0 is not safe", cold, "ask 3 2 0", "period -> 8",
                "core 3 0 -> 0");
        TERMS.holds("(step 0, if none is)", "and a wish for it is met", cold, "ask 3 0 0", "period -> 0",
                "core 3 0 -> 0", "core 3 2 -> 0");
    }

    private static String waits(int... waits) {
        StringBuilder rows = new StringBuilder();
        for (int k = 0; k < waits.length; k++) {
            rows.append("core " + k + " 2 -> " + waits[k] + "\n");
        }
        return rows.toString();
    }

    private static void waiting() {
        String words = "A core WAITS for as many periods, one after the other, as it got less than it wished for in";
        String narrow = TENS + "limit 0 5079\nseal -> true\ncore 0 2 -> 0\n";
        String less = "ask 0 1 0\nperiod -> 1\n";
        TERMS.holds(words, "one, two, three", narrow, less, "core 0 2 -> 1", less, "core 0 2 -> 2", less,
                "core 0 2 -> 3");
        TERMS.holds(words, "ticks and wishes are no periods", narrow, less, "tick 100 -> 0", "ask 0 3 9",
                "core 0 2 -> 1");
        String ends = "(0 behind one in which it had no wish, or got it)";
        TERMS.holds(ends, "no wish", narrow, less, less, "period -> 0", "core 0 2 -> 0", less, "core 0 2 -> 1");
        TERMS.holds(ends, "a wish for step 0", narrow, less, less, "ask 0 0 0", "period -> 0", "core 0 2 -> 0");
        TERMS.holds(ends, "step 0, wished for beside one that gets less",
                narrow.replace("limit 0", "limit 1 5079\nlimit 0"), less, "ask 0 0 0", "ask 1 1 0", "period -> 2",
                "core 0 2 -> 0", "core 1 2 -> 1");
        TERMS.holds(ends, "all of a lesser wish", narrow.replace("5079", "5080"), "ask 0 2 0", "period -> 1",
                "core 0 0 -> 1", "core 0 2 -> 1", "ask 0 1 0", "period -> 0", "core 0 2 -> 0");
    }

    private static void ticks() {
        String eight = "The steps hold for eight ticks; then all steps are 0 until the next period begins";
        String begun = TENS + "seal -> true\nask 0 3 0\nask 3 1 0\nperiod -> 0\n";
        TERMS.holds(eight, "the seventh, the eighth and the ninth", begun, "tick 7 -> 7", "core 0 0 -> 3",
                "core 3 0 -> 1", "tick 1 -> 1", "core 0 0 -> 0", "core 3 0 -> 0", "tick 1 -> 0", "node 0 1 -> 5200",
                "node 3 1 -> 5080");
        TERMS.holds(eight, "in one call", begun, "tick 9 -> 8", "core 0 0 -> 0", "core 3 0 -> 0");
        TERMS.holds(eight, "the bounds without sensors", begun, ALL_DEAD, "tick 7 -> 7", "node 0 1 -> 5210",
                "tick 1 -> 1", "node 0 1 -> 5240", "tick 1 -> 0", "node 0 1 -> 5240");
        String drawn = "what it was told to draw (at first nothing), but P of its step at most";
        String steps = STAR + "power 3 3000\npower 2 2000\npower 1 1000\n" + "seal -> true\nask 0 2 0\nperiod -> 0\n";
        TERMS.holds(drawn, "at first nothing", steps, "core 0 3 -> 0", "tick 1 -> 1", "node 0 0 -> 5000",
                "node 0 1 -> 5002");
        TERMS.holds(drawn, "one less than P", steps, "draw 0 1999", "core 0 3 -> 1999", "tick 1 -> 1",
                "node 0 0 -> 5001");
        TERMS.holds(drawn, "P", steps, "draw 0 2000", "core 0 3 -> 2000", "tick 1 -> 1", "node 0 0 -> 5002");
        TERMS.holds(drawn, "one more than P", steps, "draw 0 2001", "core 0 3 -> 2000", "tick 1 -> 1",
                "node 0 0 -> 5002");
        TERMS.holds(drawn, "far more than P", steps, "draw 0 1000000", "core 0 3 -> 2000", "tick 1 -> 1",
                "node 0 0 -> 5002");
        TERMS.holds("and a bound tick by the steps", "whatever is drawn", steps, "draw 0 1", "tick 1 -> 1",
                "node 0 0 -> 5000", "node 0 1 -> 5002");
    }

    private static void sensors() {
        String words = "its bound becomes at most its reading and 200";
        // The bound is 5000, with nothing that moves it; the true temperature is the air's.
        clipping(words, "as high as the bound", 4800, "sensor 0 0 true", 5000);
        clipping(words, "one above the bound", 4801, "sensor 0 0 true", 5000);
        clipping(words, "one below the bound", 4799, "sensor 0 0 true", 4999);
        String errors = "(-200 .. 200, at first 0)";
        clipping(errors, "the least error: no more than the truth", 4000, "sensor 0 -200 true", 4000);
        clipping(errors, "the greatest error", 4000, "sensor 0 200 true", 4400);
        clipping(errors, "none at first", 4000, "node 0 3 -> 4000", 4200);
        clipping("for each node whose SENSOR is alive (at first all are)", "a dead one", 4000, "sensor 0 0 false",
                5000);
        TERMS.holds("for each node whose SENSOR is alive (at first all are)", "at first", STAR, "air 4000 4000 5000",
                "seal -> true", Runs.each(NODES, "node % 3 -> 4000"), "tick 1 -> 0",
                Runs.each(NODES, "node % 1 -> 4200"));
        TERMS.holds(errors, "no error beyond", STAR, "seal -> true", Runs.each(NODES, "sensor % -200 true"),
                Runs.each(NODES, "sensor % 200 true"),
                Runs.argument(Runs.each(NODES, "sensor % -201 true"), Runs.each(NODES, "sensor % 201 true")),
                Runs.each(NODES, "node % 3 -> 5200"));
        // The reading is taken after the true tick: 5001 and 200, not 5000 and 200.
        TERMS.holds(words, "of the temperature after the tick", STAR, "power 3 1000000", "limit 0 50000",
                "seal -> true", "draw 0 1001", "ask 0 3 0", "period -> 0", "tick 1 -> 1", "node 0 0 -> 5001",
                "node 0 1 -> 5201", "tick 1 -> 1", "node 0 1 -> 5202");
    }

    private static void clipping(String words, String what, int truth, String told, int due) {
        TERMS.holds(words, what, STAR, "air 0 " + truth + " 5000", "seal -> true", told, "node 0 1 -> 5000",
                "tick 1 -> 0", "node 0 1 -> " + due, "node 0 0 -> " + truth);
    }

    private static void peaks() {
        String words = "PEAK is the greatest bound that a node had since it was sealed";
        TERMS.holds(words, "the one at the sealing", STAR, "air 0 4000 5000", "seal -> true",
                Runs.each(NODES, "node % 2 -> 5000"), "tick 1 -> 0", Runs.each(NODES, "node % 1 -> 4200"),
                Runs.each(NODES, "node % 2 -> 5000"));
        TERMS.holds(words, "within one call", STRONG, "power 3 4000", "seal -> true", ALL_DEAD, "ask 0 3 0",
                "period -> 0", "tick 100 -> 8", "node 0 1 -> 5001", "node 0 2 -> 5008", "node 1 2 -> 5000");
        TERMS.holds(words, "one more counts, the same does not", STAR, "power 3 1", "seal -> true", "ask 0 3 0",
                "period -> 0", "tick 1 -> 1", "node 0 2 -> 5001", "period -> 0", "tick 1 -> 0", "node 0 1 -> 5001",
                "node 0 2 -> 5001");
        TERMS.holds(words, "not of a sealing before", STAR, "air 0 9000 9000", "seal -> true", "node 0 2 -> 9000",
                "open", STAR, "seal -> true", "node 0 2 -> 5000");
    }

    private static void exceptions() {
        TERMS.holds("A call that throws changes nothing", "a taken number stays", "capacity 0 20 30",
                Runs.argument("capacity 0 19 10001"), "truth 0 0 20", Runs.argument("truth 0 0 19"));
        String first = "where several exceptions that a call names fit, it is the one that it names first";
        TERMS.holds(first, "all three", STAR, "seal -> true",
                Runs.index("capacity 6 0 0", "edge 0 0 9 1", "limit 6 -1", "power 4 -1", "truth 6 6 -1"));
        TERMS.holds(first, "all three, not sealed", Runs.index("ask 4 4 10", "draw 4 -1", "sensor 6 201 true"));
        TERMS.holds(first, "the last two", STAR, "seal -> true",
                Runs.argument("capacity 0 0 0", "edge 0 1 9 1", "limit 0 -1", "air 1 0 0", "power 3 -1",
                "leak -1 0 0 0", "truth 0 0 999"));
        TERMS.holds(first, "the last two, not sealed",
                Runs.argument("ask 0 4 0", "tick 0", "draw 0 -1", "sensor 0 201 true", "ahead 256"));
        TERMS.holds("IndexOutOfBoundsException: there is no such node or core", "far off",
                Runs.index("capacity 2147483647 1 1", "capacity -2147483648 1 1", "limit 2147483647 0",
                "limit -2147483648 0", "edge 2147483647 0 1 1", "edge 0 -2147483648 1 1",
                "truth -2147483648 -2147483648 1", "truth 2147483647 2147483647 1", "node 2147483647 0",
                "core -2147483648 0"));
        TERMS.holds("IllegalArgumentException: a number is not within what is said", "far off",
                Runs.argument("capacity 0 -2147483648 2147483647", "edge 0 1 -2147483648 2147483647",
                "limit 0 2147483647", "limit 0 -2147483648", "air -2147483648 0 2147483647", "power 3 2147483647",
                "leak 2147483647 2147483647 2147483647 2147483647", "truth 0 0 -2147483648", "tick -2147483648",
                "tick 2147483647", "ahead 2147483647", "ahead -2147483648"));
    }
}
