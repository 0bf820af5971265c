/** Promises 9 to 17, sentence by sentence: the last number that is taken, and the first that is refused. */
public final class SealedEdgesTest {
    private static final Sentences PROMISES = new Sentences("SealedEdgesTest");
    private static final int CORES = Runs.CORES;
    private static final int NODES = Runs.NODES;
    private static final String STAR = Runs.STAR;
    private static final String NOT_SEALED = "IllegalStateException when it is not sealed";
    private static final int LEAST = Integer.MIN_VALUE;
    private static final int MOST = Integer.MAX_VALUE;

    /** A core's bound grows by 10, 20 or 30 a tick at step 1, 2 or 3, so by 80, 160 or 240 in a period. */
    private static final String TENS = STAR + "power 3 30000\npower 2 20000\npower 1 10000\n";
    private static final String ALL_DEAD = Runs.each(NODES, "sensor % 0 false");

    private SealedEdgesTest() {
    }

    public static void main(String[] args) {
        seal();
        ask();
        period();
        tick();
        draw();
        sensor();
        ahead();
        node();
        core();
        PROMISES.end();
    }

    private static void seal() {
        PROMISES.section("Promise 9");
        PROMISES.holds("true when that is done", "once", STAR, "seal -> true", Runs.state("seal"), "node 0 0 -> 5000");
        String refused = "(else nothing changes, and its numbers can be changed on)";
        PROMISES.holds(refused, "not joined", STAR, "edge 2 6 0 0", "seal -> false", "seal -> false", notSealed(),
                "edge 2 6 1 1", "seal -> true");
        PROMISES.holds(refused, "not steady", STAR, "capacity 2 1 1", "seal -> false", "seal -> false", notSealed(),
                "capacity 2 2 2", "seal -> true");
        PROMISES.holds(refused, "not safe", STAR, "limit 2 4999", "seal -> false", "seal -> false", notSealed(),
                "limit 2 5000", "seal -> true");
        PROMISES.holds(refused, "each number can be changed, and is kept", "seal -> false", "capacity 0 500 510",
                "seal -> false", "truth 0 0 505", "seal -> false", "edge 0 6 2 3", "seal -> false", "truth 0 6 3",
                "seal -> false", "limit 1 5001", "seal -> false", "air 1 2 3", "seal -> false", "power 3 7",
                "seal -> false", "leak 0 0 0 9", "seal -> false", Runs.argument("truth 0 0 511", "truth 0 6 4"),
                STAR.replace("edge 0 6 1 1\n", ""), "seal -> true", "node 0 0 -> 2", "node 0 1 -> 3", "draw 0 9",
                "ask 0 3 0", "period -> 0", "core 0 3 -> 7");
        // Were the true conductance changed by a refusal, core 0 would lose 10 * 100 in the second tick.
        PROMISES.holds(refused, "what is true stays", STAR, "edge 0 6 10 20", "truth 0 6 20", "limit 5 0",
                "seal -> false", "limit 5 5000", "power 3 100000", "seal -> true", "ask 0 3 0", "draw 0 100000",
                "period -> 0", "tick 2 -> 2", "node 0 0 -> 5198");
        PROMISES.holds("IllegalStateException when it is sealed", "also in a period, and not behind an open", TENS,
                "seal -> true", "ask 0 3 0", "period -> 0", "tick 1 -> 1", Runs.state("seal"), "core 0 0 -> 3",
                "node 0 1 -> 5030", "open", "seal -> false", STAR, "seal -> true");
    }

    private static String notSealed() {
        return Runs.state("ask 0 0 0", "period", "tick 1", "draw 0 0", "sensor 0 0 true", "ahead 0", "node 0 0",
                "core 0 0");
    }

    private static void ask() {
        PROMISES.section("Promise 10");
        String words = "A core wishes for a step (0, too), with a rank";
        for (int k = 0; k < CORES; k++) {
            String call = "ask " + k + " ";
            PROMISES.holds(words, "core " + k, TENS, "seal -> true", call + "0 0", "core " + k + " 1 -> 0",
                    call + "3 9", "core " + k + " 1 -> 3",
                    Runs.argument(call + "-1 0", call + "4 0", call + "0 -1", call + "0 10", call + "4 10",
                    call + LEAST + " 0", call + MOST + " 0", call + "0 " + LEAST, call + "0 " + MOST),
                    "core " + k + " 1 -> 3");
        }
        PROMISES.holds(words, "no other core", STAR, "seal -> true",
                Runs.index("ask -1 0 0", "ask 4 0 0", "ask 5 0 0", "ask " + LEAST + " 0 0", "ask " + MOST + " 0 0",
                "ask 4 4 10"), Runs.each(CORES, "core % 1 -> -1"));
        PROMISES.holds("(0, too)", "a wish for 0 is one", TENS, "seal -> true", "ask 2 0 0", "core 2 1 -> 0",
                "period -> 0", "core 2 1 -> -1", "core 2 0 -> 0");
        PROMISES.holds("(the latest wish, with its rank, counts)", "a refused one is none", TENS, "seal -> true",
                "ask 0 2 0", Runs.argument("ask 0 3 10"), "core 0 1 -> 2", "period -> 0", "core 0 0 -> 2");
        String three = threeSteps();
        PROMISES.holds("(the latest wish, with its rank, counts)", "the rank of a refused one does not", three,
                "ask 0 3 4", "ask 1 3 5", Runs.argument("ask 0 4 9", "ask 0 3 10", "ask 1 3 -1"), "period -> 1",
                "core 0 0 -> 0", "core 1 0 -> 3");
        PROMISES.holds("(the latest wish, with its rank, counts)", "the rank of one before does not", three,
                "ask 0 3 9", "ask 1 3 5", "ask 0 3 4", "period -> 1", "core 0 0 -> 0", "core 1 0 -> 3");
        PROMISES.holds(NOT_SEALED, "from the first and behind an open", Runs.state("ask 0 0 0", "ask 3 3 9"), STAR,
                Runs.state("ask 0 0 0"), "seal -> true", "ask 0 0 0", "open", Runs.state("ask 0 0 0"));
    }

    /** Three steps bring the spreader to 5056, whether core 0 or core 1 has them; it may come no further. */
    private static String threeSteps() {
        return TENS + "edge 0 4 100 100\nedge 1 4 100 100\nedge 4 6 100 100\nlimit 4 5056\nseal -> true\n";
    }

    private static void period() {
        PROMISES.section("Promise 11");
        PROMISES.holds("(also when steps of the one before hold still; wishes are gone then)",
                "after no tick, and after seven", TENS, "seal -> true", "ask 0 3 0", "period -> 0", "period -> 0",
                "core 0 0 -> 0", "tick 1 -> 0", "ask 0 3 0", "period -> 0", "core 0 1 -> -1", "tick 7 -> 7",
                "ask 1 1 0", "period -> 0", "core 0 0 -> 0", "core 1 0 -> 1", "core 1 1 -> -1", "tick 100 -> 8");
        String sum = "the sum of 1 << core for those that got less than they wished for";
        String narrow = TENS + Runs.each(CORES, "limit % 5159");
        PROMISES.holds(sum, "none wishes", narrow, "seal -> true", "period -> 0");
        PROMISES.holds(sum, "none gets less", narrow, "seal -> true", Runs.each(CORES, "ask % 1 0"), "period -> 0");
        PROMISES.holds(sum, "all get less", narrow, "seal -> true", Runs.each(CORES, "ask % 2 0"), "period -> 15",
                Runs.each(CORES, "core % 0 -> 1"));
        for (int k = 0; k < CORES; k++) {
            PROMISES.holds(sum, "core " + k + " alone", narrow, "seal -> true", Runs.each(CORES, "ask % 1 0"),
                    "ask " + k + " 3 0", "period -> " + (1 << k), Runs.each(CORES, "core % 0 -> 1"));
            PROMISES.holds(sum, "all but core " + k, narrow, "seal -> true", Runs.each(CORES, "ask % 2 0"),
                    "ask " + k + " 1 0", "period -> " + (15 - (1 << k)), Runs.each(CORES, "core % 0 -> 1"));
        }
        PROMISES.holds(NOT_SEALED, "from the first and behind an open", Runs.state("period"), STAR,
                Runs.state("period"), "seal -> true", "period -> 0", "open", Runs.state("period"));
    }

    private static void tick() {
        PROMISES.section("Promise 12");
        PROMISES.holds("n TICKS: 1 .. 100", "both ends", STAR, "seal -> true", "tick 1 -> 0", "tick 100 -> 0",
                Runs.argument("tick 0", "tick 101", "tick -1", "tick " + LEAST, "tick " + MOST));
        // Core 0 goes up by one a tick.
        String slow = "capacity 0 10000 10000\npower 3 500\npower 2 500\npower 1 500\npower 0 200\n"
                + "capacity 1 10000 10000\n" + "capacity 2 10000 10000\ncapacity 3 10000 10000\n";
        PROMISES.holds("n TICKS: 1 .. 100", "neither more nor fewer are made", STAR, slow, "seal -> true",
                "tick 1 -> 0", "node 0 1 -> 5001", "tick 99 -> 0", "node 0 1 -> 5100", "tick 100 -> 0",
                "node 0 1 -> 5200", Runs.argument("tick 0", "tick 101"), "node 0 1 -> 5200");
        String words = "How many of these were made while some step was above 0";
        String begun = TENS + "seal -> true\nask 0 1 0\nperiod -> 0\n";
        PROMISES.holds(words, "seven", begun, "tick 7 -> 7", "tick 1 -> 1", "tick 1 -> 0");
        PROMISES.holds(words, "eight", begun, "tick 8 -> 8", "tick 1 -> 0");
        PROMISES.holds(words, "nine", begun, "tick 9 -> 8", "tick 100 -> 0");
        PROMISES.holds(words, "a hundred", begun, "tick 100 -> 8", "tick 8 -> 0");
        PROMISES.holds(words, "all steps are 0", TENS, "seal -> true", "tick 8 -> 0", Runs.each(CORES, "ask % 0 9"),
                "period -> 0", "tick 8 -> 0");
        PROMISES.holds(words, "a step without power is above 0, too", STAR, "seal -> true", "ask 3 1 0", "period -> 0",
                "tick 100 -> 8");
        for (int k = 0; k < CORES; k++) {
            PROMISES.holds(words, "core " + k + " alone", TENS, "seal -> true", "ask " + k + " 1 0", "period -> 0",
                    "tick 100 -> 8");
        }
        String over = "(steps hold for eight ticks since the period, over all calls)";
        PROMISES.holds(over, "one by one", begun, "tick 1 -> 1".concat("\n").repeat(8), "core 0 0 -> 0", "tick 1 -> 0");
        PROMISES.holds(over, "since the latest period", begun, "tick 7 -> 7", "ask 0 1 0", "period -> 0", "tick 7 -> 7",
                "core 0 0 -> 1", "tick 2 -> 1");
        PROMISES.holds(over, "a refused one is no tick", begun, "tick 7 -> 7", Runs.argument("tick 0", "tick 101"),
                "core 0 0 -> 1", "tick 2 -> 1");
        PROMISES.holds(NOT_SEALED, "from the first and behind an open", Runs.state("tick 1", "tick 100"), STAR,
                Runs.state("tick 1"), "seal -> true", "tick 1 -> 0", "open", Runs.state("tick 1"));
    }

    private static void draw() {
        PROMISES.section("Promise 13");
        String words = "A core is told to draw p from now on: 0 .. 1000000";
        String all = STAR + Runs.each(CORES,
                "limit % 50000") + "power 3 1000000\npower 2 1000000\npower 1 1000000\nseal -> true\n";
        for (int k = 0; k < CORES; k++) {
            String call = "draw " + k + " ";
            String drawn = "core " + k + " 3 -> ";
            PROMISES.holds(words, "core " + k, all, "ask " + k + " 3 0", "period -> 0", call + "1000000",
                    drawn + "1000000", call + "999999", drawn + "999999", call + "1", drawn + "1", call + "0",
                    drawn + "0", call + "5", Runs.argument(call + "-1", call + "1000001", call + LEAST, call + MOST),
                    drawn + "5");
        }
        PROMISES.holds(words, "no other core", all,
                Runs.index("draw -1 0", "draw 4 0", "draw 5 0", "draw " + LEAST + " 0", "draw " + MOST + " 0",
                "draw 4 -1"));
        PROMISES.holds(words, "from now on: over periods and ticks, and not before", all, "ask 0 3 0", "period -> 0",
                "tick 1 -> 1", "node 0 0 -> 5000", "draw 0 2000", "node 0 0 -> 5000", "tick 1 -> 1", "node 0 0 -> 5002",
                "tick 8 -> 6", "core 0 3 -> 0", "ask 0 1 0", "period -> 0", "core 0 3 -> 2000");
        PROMISES.holds(NOT_SEALED, "from the first and behind an open", Runs.state("draw 0 0", "draw 3 1000000"), STAR,
                Runs.state("draw 0 0"), "seal -> true", "draw 0 0", "open", Runs.state("draw 0 0"));
    }

    private static void sensor() {
        PROMISES.section("Promise 14");
        PROMISES.holds("The sensor of a node", "no other node", STAR, "seal -> true",
                Runs.each(NODES, "sensor % 0 true"),
                Runs.index("sensor -1 0 true", "sensor 6 0 true", "sensor 7 0 false", "sensor " + LEAST + " 0 true",
                "sensor " + MOST + " 0 true", "sensor 6 201 true"));
        PROMISES.holds("The sensor of a node", "it dies, and comes back", STAR, "air 0 4000 5000", "seal -> true",
                ALL_DEAD, Runs.each(NODES, "node % 3 -> -1"), "tick 1 -> 0", Runs.each(NODES, "node % 1 -> 5000"),
                "sensor 3 9 true", "node 3 3 -> 4009", "node 3 1 -> 5000", "tick 1 -> 0", "node 3 1 -> 4209",
                "node 2 1 -> 5000");
        for (int n = 0; n < NODES; n++) {
            String call = "sensor " + n + " ";
            String reading = "node " + n + " 3 -> ";
            PROMISES.holds("IllegalArgumentException when error is not -200 .. 200", "node " + n, STAR, "seal -> true",
                    call + "-200 true", reading + "4800", call + "200 true", reading + "5200", call + "-200 false",
                    reading + "-1", call + "200 false", reading + "-1", call + "199 true", reading + "5199",
                    Runs.argument(call + "-201 true", call + "201 true", call + "-201 false", call + "201 false",
                    call + LEAST + " true", call + MOST + " false"), reading + "5199");
        }
        PROMISES.holds(NOT_SEALED, "from the first and behind an open",
                Runs.state("sensor 0 0 true", "sensor 5 200 false"), STAR, Runs.state("sensor 0 0 true"),
                "seal -> true", "sensor 0 0 true", "open", Runs.state("sensor 0 0 true"));
    }

    private static void ahead() {
        PROMISES.section("Promise 15");
        PROMISES.holds("IllegalArgumentException when steps is not 0 .. 255", "both ends", TENS, "seal -> true",
                "ahead 0 -> true", "ahead 255 -> true",
                Runs.argument("ahead -1", "ahead 256", "ahead " + LEAST, "ahead " + MOST));
        for (int k = 0; k < CORES; k++) {
            for (int step = 0; step < 4; step++) {
                // Room for this step of this core, and for all steps of the others.
                int bit = 2 * k;
                String limited = TENS + "limit " + k + " " + (5000 + 80 * step) + "\nseal -> true\n";
                int others = 255 - (3 << bit);
                PROMISES.holds("core k's is bits 2 k and 2 k + 1", "core " + k + " at " + step, limited,
                        "ahead " + (step << bit) + " -> true", "ahead " + (others + (step << bit)) + " -> true",
                        step == 3 ? "" : "ahead " + ((step + 1) << bit) + " -> false",
                        step == 3 ? "" : "ahead " + (others + ((step + 1) << bit)) + " -> false");
            }
        }
        PROMISES.holds("(for a period that began now; nothing changes)", "eight ticks more, whatever holds", TENS,
                "limit 0 5160", "seal -> true", ALL_DEAD, "ask 0 1 0", "period -> 0", "tick 7 -> 7", "node 0 1 -> 5070",
                "ahead 1 -> true", "ahead 2 -> false", "tick 1 -> 1", "node 0 1 -> 5080", "ahead 1 -> true",
                "tick 1 -> 0", "node 0 1 -> 5080");
        PROMISES.holds("(for a period that began now; nothing changes)", "nothing", TENS, "limit 0 5080",
                "seal -> true", "ask 0 3 4", "period -> 1", "tick 3 -> 3", "ask 0 2 0", "ahead 255 -> false",
                "ahead 0 -> true", "core 0 0 -> 1", "core 0 1 -> 2", "core 0 2 -> 1", "node 0 1 -> 5030",
                "node 0 2 -> 5030", "tick 6 -> 5");
        PROMISES.holds("Whether the bounds as they are are SAFE", "at the limit and one above", TENS, "limit 3 5079",
                "limit 0 5080", "seal -> true", "ahead 1 -> true", "ahead 64 -> false", "ahead 65 -> false");
        PROMISES.holds(NOT_SEALED, "from the first and behind an open", Runs.state("ahead 0", "ahead 255"), STAR,
                Runs.state("ahead 0"), "seal -> true", "ahead 0 -> true", "open", Runs.state("ahead 0"));
    }

    private static void node() {
        PROMISES.section("Promise 16");
        String words = "what = 0 its true temperature, 1 its bound, 2 its peak, 3 its sensor's reading as it is now";
        for (int n = 0; n < NODES; n++) {
            String call = "node " + n + " ";
            PROMISES.holds(words, "node " + n, STAR, "air 10 20 30", "seal -> true", call + "0 -> 20", call + "1 -> 30",
                    call + "2 -> 30", call + "3 -> 20", "sensor " + n + " -190 true", call + "1 -> 30", "tick 1 -> 0",
                    call + "0 -> 20", call + "1 -> 30", call + "2 -> 30", call + "3 -> -170",
                    "sensor " + n + " -200 true", "tick 1 -> 0", call + "1 -> 20", call + "2 -> 30",
                    call + "3 -> -180");
            PROMISES.holds("IndexOutOfBoundsException also for another what", "node " + n, STAR, "seal -> true",
                    Runs.index(call + "-1", call + "4", call + LEAST, call + MOST));
        }
        String reading = "(its true temperature and its error, perhaps below 0; -1 when it is dead)";
        PROMISES.holds(reading, "1 below 0, 0, and the least there is", STAR, "air 0 0 0", "seal -> true",
                "sensor 0 -1 true", "node 0 3 -> -1", "sensor 0 0 true", "node 0 3 -> 0", "sensor 0 -200 true",
                "node 0 3 -> -200", "tick 1 -> 0", "node 0 1 -> 0", "sensor 0 -200 false", "node 0 3 -> -1");
        PROMISES.holds(reading, "the greatest there is", STAR, Runs.each(NODES, "limit % 50000"),
                "air 50000 50000 50000", "seal -> true", "sensor 5 200 true", "node 5 3 -> 50200", "tick 1 -> 0",
                "node 5 1 -> 50000", "node 5 3 -> 50200");
        PROMISES.holds("IndexOutOfBoundsException also for another what", "nor of another node", STAR, "seal -> true",
                Runs.index("node -1 0", "node 6 0", "node 6 4", "node " + LEAST + " 0", "node " + MOST + " 3"));
        PROMISES.holds(NOT_SEALED, "from the first and behind an open",
                Runs.state(Runs.each(NODES, "node % 0"), "node 5 3"), Runs.index("node 6 0", "node 0 4"), STAR,
                Runs.state("node 0 0"), "seal -> true", "node 0 0 -> 5000", "open", Runs.state("node 0 0"));
    }

    private static void core() {
        PROMISES.section("Promise 17");
        String words = "what = 0 its step, 1 its wish (-1 for none), 2 for how many periods it waits, "
                + "3 what it truly draws at its step";
        for (int k = 0; k < CORES; k++) {
            String call = "core " + k + " ";
            PROMISES.holds(words, "core " + k, TENS, "limit " + k + " 5160", "seal -> true", call + "0 -> 0",
                    call + "1 -> -1", call + "2 -> 0", call + "3 -> 0", "ask " + k + " 3 0", call + "0 -> 0",
                    call + "1 -> 3", "period -> " + (1 << k), call + "0 -> 2", call + "1 -> -1", call + "2 -> 1",
                    "draw " + k + " 20001", call + "3 -> 20000", "draw " + k + " 19999", call + "3 -> 19999",
                    "tick 8 -> 8", call + "0 -> 0", call + "3 -> 0", call + "2 -> 1");
            PROMISES.holds("IndexOutOfBoundsException also for another what", "core " + k, STAR, "seal -> true",
                    Runs.index(call + "-1", call + "4", call + LEAST, call + MOST));
        }
        PROMISES.holds("(what it was told, 0 at first, P of the step at most)", "at step 0", STAR, "power 3 8",
                "power 2 8", "power 1 8", "power 0 7", "seal -> true", "core 0 3 -> 0", "draw 0 6", "core 0 3 -> 6",
                "draw 0 7", "core 0 3 -> 7", "draw 0 8", "core 0 3 -> 7", "ask 0 1 0", "core 0 3 -> 7", "period -> 0",
                "core 0 3 -> 8");
        PROMISES.holds("IndexOutOfBoundsException also for another what", "nor of another core", STAR, "seal -> true",
                Runs.index("core -1 0", "core 4 0", "core 5 3", "core 4 4", "core " + LEAST + " 0",
                "core " + MOST + " 3"));
        PROMISES.holds(NOT_SEALED, "from the first and behind an open",
                Runs.state(Runs.each(CORES, "core % 0"), "core 3 3"), Runs.index("core 4 0", "core 0 4"), STAR,
                Runs.state("core 0 0"), "seal -> true", "core 0 0 -> 0", "open", Runs.state("core 0 0"));
    }
}
