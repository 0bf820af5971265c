/** Promises 1 to 8 and 18, sentence by sentence: the last number that is taken, and the first that is refused. */
public final class NumbersEdgesTest {
    private static final Sentences PROMISES = new Sentences("NumbersEdgesTest");
    private static final int CORES = Runs.CORES;
    private static final int NODES = Runs.NODES;
    private static final String STAR = Runs.STAR;
    private static final String WHEN_SEALED = "IllegalStateException when it is sealed";
    private static final int LEAST = Integer.MIN_VALUE;
    private static final int MOST = Integer.MAX_VALUE;

    /** Core 0 is driven up by 100 in a first tick, and by as much less what it loses in a second. */
    private static final String TWO_TICKS = """
            power 3 100000
            seal -> true
            ask 0 3 0
            period -> 0
            draw 0 100000
            tick 2 -> 2
            """;

    private NumbersEdgesTest() {
    }

    public static void main(String[] args) {
        newObject();
        capacity();
        edge();
        noEdge();
        limit();
        air();
        power();
        leak();
        truth();
        open();
        PROMISES.end();
    }

    private static void newObject() {
        PROMISES.section("Promise 1");
        PROMISES.holds("Not sealed", "what is for a sealed one only",
                Runs.state("ask 0 0 0", "period", "tick 1", "draw 0 0", "sensor 0 0 true", "ahead 0", "node 0 0",
                "core 0 0"));
        PROMISES.holds("without edges", "of none only 0", Runs.each(NODES, "truth % 6 0"),
                Runs.argument(Runs.each(NODES, "truth % 6 1")), "seal -> false");
        for (int n = 0; n < NODES; n++) {
            String others = Runs.each(NODES, "limit % 50000").replace("limit " + n + " 50000\n", "");
            PROMISES.holds("limits are 20000", "of node " + n, STAR, others, "air 0 0 20001", "seal -> false",
                    "air 0 0 20000", "seal -> true");
        }
    }

    private static void capacity() {
        PROMISES.section("Promise 2");
        for (int n = 0; n < NODES; n++) {
            String call = "capacity " + n + " ";
            PROMISES.holds("1 .. 10000, low not above high", "of node " + n, call + "1 1", call + "1 10000",
                    call + "10000 10000",
                    Runs.argument(call + "0 1", call + "0 0", call + "1 10001", call + "10000 10001",
                    call + "10001 10001", call + LEAST + " 1", call + "1 " + MOST, call + "-1 10000"));
            PROMISES.holds("low not above high", "of node " + n, call + "500 501", call + "500 500",
                    Runs.argument(call + "500 499", call + "10000 1"));
        }
        PROMISES.holds("The capacity of a node", "no other",
                Runs.index("capacity -1 1 1", "capacity 6 1 1", "capacity 7 1 1", "capacity " + LEAST + " 1 1",
                "capacity " + MOST + " 1 1"));
        PROMISES.holds("the true one is low then", "100000 / 500 is 200", STAR, "capacity 0 500 501",
                TWO_TICKS.replace("tick 2 -> 2", "tick 1 -> 1"), "node 0 0 -> 5200");
        PROMISES.holds("the true one is low then", "also behind another truth", STAR, "capacity 0 500 501",
                "truth 0 0 501", "capacity 0 500 501", TWO_TICKS.replace("tick 2 -> 2", "tick 1 -> 1"),
                "node 0 0 -> 5200");
        PROMISES.holds(WHEN_SEALED, "with the same numbers, too", STAR, "capacity 0 1000 1000", "seal -> true",
                Runs.state(Runs.each(NODES, "capacity % 1000 1000"), "capacity 0 1 1", "capacity 5 10000 10000"));
    }

    private static void edge() {
        PROMISES.section("Promise 3");
        for (int n = 0; n < NODES; n++) {
            String call = "edge " + n + " 6 ";
            PROMISES.holds("conductances 0 .. 500, low not above high", "of " + n + " and the air", call + "0 0",
                    call + "0 500", call + "500 500",
                    Runs.argument(call + "-1 0", call + "-1 -1", call + "0 501", call + "500 501", call + "501 501",
                    call + LEAST + " 0", call + "0 " + MOST));
            PROMISES.holds("low not above high", "of " + n + " and the air", call + "7 8", call + "7 7",
                    Runs.argument(call + "7 6", call + "500 0"));
            PROMISES.holds("IndexOutOfBoundsException also when a is b", "node " + n,
                    Runs.index("edge " + n + " " + n + " 1 1"));
        }
        PROMISES.holds("IndexOutOfBoundsException also when a is b", "the air, and what is not there",
                Runs.index("edge 6 6 1 1", "edge 7 7 1 1", "edge -1 -1 1 1"));
        PROMISES.holds("(6 for the air)", "no 7 and no -1", "edge 0 6 1 1", "edge 6 0 1 1",
                Runs.index("edge 0 7 1 1", "edge 7 0 1 1", "edge -1 0 1 1", "edge 0 -1 1 1", "edge -1 6 1 1",
                "edge 6 7 1 1", "edge " + LEAST + " 0 1 1", "edge 0 " + MOST + " 1 1"));
        // Above by 100, core 0 loses 10 * 100 of 100000 in the second tick, or 11 * 100.
        PROMISES.holds("the true one is low then", "10, not 11", STAR, "edge 0 6 10 11", TWO_TICKS, "node 0 0 -> 5199");
        PROMISES.holds("the true one is low then", "also behind another truth", STAR, "edge 0 6 10 11", "truth 0 6 11",
                "edge 6 0 10 11", TWO_TICKS, "node 0 0 -> 5199");
        PROMISES.holds("the true one is low then", "11, when that is told", STAR, "edge 0 6 10 11", "truth 0 6 11",
                TWO_TICKS, "node 0 0 -> 5198");
    }

    private static void noEdge() {
        for (int n = 0; n < NODES; n++) {
            String call = "edge " + n + " 6 ";
            String truth = "truth 6 " + n + " ";
            PROMISES.holds("(0 and 0: no edge.)", "node " + n, STAR, call + "0 0", truth + "0",
                    Runs.argument(truth + "1"), "seal -> false", call + "0 1", truth + "1", "seal -> true");
        }
        PROMISES.holds("(0 and 0: no edge.)", "nothing goes over what was one", STAR, "edge 0 1 300 300",
                "edge 1 0 0 0", TWO_TICKS, "node 1 0 -> 5000", "node 1 1 -> 5000");
        PROMISES.holds("(0 and 0: no edge.)", "nor is it summed up", STAR, "edge 0 1 499 500", "seal -> false",
                "edge 0 1 0 0", "seal -> true");
        PROMISES.holds(WHEN_SEALED, "with the same numbers, too", STAR, "seal -> true",
                Runs.state(Runs.each(NODES, "edge % 6 1 1"), Runs.each(NODES, "edge 6 % 0 0"), "edge 0 1 500 500",
                "edge 0 1 0 0"));
    }

    private static void limit() {
        PROMISES.section("Promise 4");
        String words = "The limit of a node: 0 .. 50000";
        for (int n = 0; n < NODES; n++) {
            String call = "limit " + n + " ";
            PROMISES.holds(words, "of node " + n, call + "0", call + "1", call + "49999", call + "50000",
                    Runs.argument(call + "-1", call + "50001", call + LEAST, call + MOST));
            PROMISES.holds(words, "0 of node " + n, STAR, call + "0", "air 0 0 1", "seal -> false", "air 0 0 0",
                    "seal -> true");
            PROMISES.holds(words, "50000 of node " + n, STAR, Runs.each(NODES, "limit % 50000"), call + "49999",
                    "air 0 0 50000", "seal -> false", call + "50000", "seal -> true");
        }
        PROMISES.holds(words, "no other node",
                Runs.index("limit -1 0", "limit 6 0", "limit 7 0", "limit " + LEAST + " 0", "limit " + MOST + " 0"));
        PROMISES.holds(WHEN_SEALED, "with the same number, too", STAR, "seal -> true",
                Runs.state(Runs.each(NODES, "limit % 20000"), "limit 0 0", "limit 5 50000"));
    }

    private static void air() {
        PROMISES.section("Promise 5");
        String words = "0 <= low <= truly <= high <= 50000";
        PROMISES.holds(words, "0 and low", "air 0 1 2", Runs.argument("air -1 1 2", "air " + LEAST + " 1 2"));
        PROMISES.holds(words, "low and truly", "air 9 9 20", Runs.argument("air 10 9 20", "air " + MOST + " 9 20"));
        PROMISES.holds(words, "truly and high", "air 5 20 20",
                Runs.argument("air 5 21 20", "air 5 " + MOST + " 20", "air 5 " + LEAST + " 20"));
        PROMISES.holds(words, "high and 50000", "air 5 9 50000", Runs.argument("air 5 9 50001", "air 5 9 " + MOST));
        PROMISES.holds(words, "all the same", "air 0 0 0", "air 50000 50000 50000",
                Runs.argument("air -1 -1 -1", "air 50001 50001 50001"));
        PROMISES.holds(words, "upside down",
                Runs.argument("air 3 2 1", "air 3 3 2", "air 50000 0 0", "air 50000 50000 0", "air 0 50000 0"));
        PROMISES.holds(words, "0, 0 and 50000", STAR, Runs.each(NODES, "limit % 50000"), "air 0 0 50000",
                "seal -> true", Runs.each(NODES, "node % 0 -> 0"), Runs.each(NODES, "node % 1 -> 50000"), "tick 1 -> 0",
                Runs.each(NODES, "node % 0 -> 0"), Runs.each(NODES, "node % 1 -> 200"));
        PROMISES.holds(WHEN_SEALED, "with the same numbers, too", STAR, "seal -> true",
                Runs.state("air 5000 5000 5000", "air 0 0 0"));
    }

    private static void power() {
        PROMISES.section("Promise 6");
        PROMISES.holds("P[step] becomes p: 0 .. 1000000", "of step 3", "power 3 0", "power 3 1", "power 3 999999",
                "power 3 1000000",
                Runs.argument("power 3 -1", "power 3 1000001", "power 3 " + LEAST, "power 3 " + MOST));
        PROMISES.holds("P[step] becomes p: 0 .. 1000000", "of all steps", "power 3 1000000", "power 2 1000000",
                "power 1 1000000", "power 0 1000000",
                Runs.argument("power 0 1000001", "power 1 1000001", "power 2 1000001", "power 3 1000001", "power 0 -1"),
                "power 0 0", Runs.argument("power 0 -1"));
        PROMISES.holds("P still rising, or the same", "from below and from above", "power 3 9", "power 2 9",
                Runs.argument("power 2 10"), "power 1 8", Runs.argument("power 2 7"), "power 2 8",
                Runs.argument("power 3 7"), "power 3 8", Runs.argument("power 1 9"), "power 0 8",
                Runs.argument("power 0 9", "power 1 7"), "power 0 7", "power 1 7");
        PROMISES.holds("with those of the other steps as they are", "no other step goes along", "power 3 9",
                Runs.argument("power 1 1", "power 0 1"), "power 2 5", Runs.argument("power 0 1", "power 3 4"),
                "power 1 5", "power 0 5", Runs.argument("power 1 4", "power 2 4", "power 3 4"));
        PROMISES.holds("(so, from all 0, P[3] is told first)", "no other is taken",
                Runs.argument("power 0 1", "power 1 1", "power 2 1"), "power 0 0", "power 1 0", "power 2 0",
                "power 3 1");
        PROMISES.holds("IndexOutOfBoundsException when there is no such step", "none below 0, none above 3",
                Runs.each(4, "power % 0"),
                Runs.index("power -1 0", "power 4 0", "power " + LEAST + " 0", "power " + MOST + " 0"));
        PROMISES.holds(WHEN_SEALED, "with the same number, too", STAR, "seal -> true",
                Runs.state(Runs.each(4, "power % 0"), "power 3 1000000"));
    }

    private static void leak() {
        PROMISES.section("Promise 7");
        PROMISES.holds("base 0 .. 100000", "both ends", "leak 0 1 1 1", "leak 100000 1 1 1",
                Runs.argument("leak -1 1 1 1", "leak 100001 1 1 1", "leak " + LEAST + " 1 1 1",
                "leak " + MOST + " 1 1 1"));
        PROMISES.holds("slope and steep 0 .. 100", "slope", "leak 1 0 1 1", "leak 1 100 1 1",
                Runs.argument("leak 1 -1 1 1", "leak 1 101 1 1", "leak 1 " + LEAST + " 1 1",
                "leak 1 " + MOST + " 1 1"));
        PROMISES.holds("slope and steep 0 .. 100", "steep", "leak 1 1 0 1", "leak 1 1 100 1",
                Runs.argument("leak 1 1 -1 1", "leak 1 1 101 1", "leak 1 1 " + LEAST + " 1",
                "leak 1 1 " + MOST + " 1"));
        PROMISES.holds("knee 0 .. 50000", "both ends", "leak 1 1 1 0", "leak 1 1 1 50000",
                Runs.argument("leak 1 1 1 -1", "leak 1 1 1 50001", "leak 1 1 1 " + LEAST, "leak 1 1 1 " + MOST));
        // 100000 / 10000 at 0; then at 10 as much, and 100 * 10 twice, less 500 * 10 that goes into the air.
        PROMISES.holds("The leak of all cores", "the greatest there is", Runs.each(NODES, "capacity % 10000 10000"),
                Runs.each(NODES, "edge % 6 500 500"), "air 0 0 0", "leak 100000 100 100 0", "seal -> true",
                "tick 1 -> 0", Runs.each(CORES, "node % 0 -> 10"), Runs.each(CORES, "node % 1 -> 10"), "node 4 1 -> 0",
                "node 5 1 -> 0", "tick 1 -> 0", Runs.each(CORES, "node % 0 -> 19"), Runs.each(CORES, "node % 1 -> 20"));
        PROMISES.holds(WHEN_SEALED, "with the same numbers, too", STAR, "seal -> true",
                Runs.state("leak 0 0 0 0", "leak 100000 100 100 50000"));
    }

    private static void truth() {
        PROMISES.section("Promise 8");
        for (int n = 0; n < NODES; n++) {
            String capacity = "truth " + n + " " + n + " ";
            PROMISES.holds("within the range", "the capacity of " + n, "capacity " + n + " 1 10000", capacity + "1",
                    capacity + "10000",
                    Runs.argument(capacity + "0", capacity + "10001", capacity + LEAST, capacity + MOST),
                    "capacity " + n + " 30 40", capacity + "30", capacity + "40",
                    Runs.argument(capacity + "29", capacity + "41"));
            String edge = "truth 6 " + n + " ";
            PROMISES.holds("within the range", "the edge of " + n + " and the air", "edge 6 " + n + " 0 500",
                    edge + "0", edge + "500", Runs.argument(edge + "-1", edge + "501", edge + LEAST, edge + MOST),
                    "edge " + n + " 6 30 40", edge + "30", edge + "40", Runs.argument(edge + "29", edge + "41"));
            PROMISES.holds("(a is not b; of none only 0)", "of " + n + " and the air", edge + "0",
                    Runs.argument(edge + "1", edge + "-1"), "edge " + n + " 6 0 1", edge + "1", "edge " + n + " 6 0 0",
                    Runs.argument(edge + "1"), edge + "0");
        }
        PROMISES.holds("(not of the air)", "nor of what is not there", "truth 0 0 1000", "truth 5 5 1000",
                Runs.index("truth 6 6 1000", "truth 6 6 5000", "truth 7 7 1000", "truth -1 -1 1000",
                "truth " + LEAST + " " + LEAST + " 1", "truth " + MOST + " " + MOST + " 1"));
        PROMISES.holds("The true conductance of an edge", "no end is beyond the air",
                Runs.index("truth 7 0 0", "truth 0 7 0", "truth -1 0 0", "truth 0 -1 0", "truth 6 7 0", "truth -1 6 0",
                "truth " + MOST + " 0 0", "truth 0 " + LEAST + " 0"));
        PROMISES.holds("of none only 0", "0 makes no edge", STAR, "edge 4 6 0 0", "truth 4 6 0", "truth 6 4 0",
                "seal -> false");
        PROMISES.holds("the true capacity of a node", "the high one: 100000 / 501", STAR, "capacity 0 500 501",
                "truth 0 0 501", TWO_TICKS.replace("tick 2 -> 2", "tick 1 -> 1"), "node 0 0 -> 5199",
                "node 0 1 -> 5200");
        PROMISES.holds("The true conductance of an edge", "the bound knows nothing of it", STAR, "edge 0 6 10 20",
                "truth 6 0 20", TWO_TICKS, "node 0 0 -> 5198", "node 0 1 -> 5199");
        PROMISES.holds("The true conductance of an edge", "0 is within 0 and 500", STAR, "edge 0 6 0 400",
                "truth 0 6 400", "truth 0 6 0", TWO_TICKS, "node 0 0 -> 5200", "node 0 1 -> 5200");
        PROMISES.holds(WHEN_SEALED, "with the same numbers, too", STAR, "seal -> true",
                Runs.state(Runs.each(NODES, "truth % % 1000"), Runs.each(NODES, "truth % 6 1"), "truth 0 1 0"));
    }

    private static void open() {
        PROMISES.section("Promise 18");
        PROMISES.holds("It is as at first", "a new one, twice", "open", "open", Runs.state("node 0 0"), "seal -> false",
                STAR, "seal -> true");
        PROMISES.holds("It is as at first", "behind a refused sealing", STAR, "limit 0 4999", "seal -> false", "open",
                "seal -> false", STAR, "seal -> true");
        PROMISES.holds("It is as at first", "each number", Runs.each(NODES, "capacity % 7 9"),
                Runs.each(NODES, "limit % 4000"), "edge 0 1 5 9", "air 1 2 3", "power 3 9", "power 2 8", "leak 1 2 3 4",
                "open", Runs.each(NODES, "truth % % 1000"),
                Runs.argument(Runs.each(NODES, "truth % % 9"), "truth 0 1 5", "power 2 1"), "truth 0 1 0", "power 3 1",
                "power 3 0", STAR, "limit 5 4999", "seal -> false", "limit 5 20000", "seal -> true",
                Runs.each(NODES, "node % 0 -> 5000"), Runs.each(NODES, "node % 1 -> 5000"), "tick 1 -> 0",
                Runs.each(NODES, "node % 1 -> 5000"));
        PROMISES.holds("It is as at first", "behind ticks, wishes, draws and dead sensors", STAR, "power 3 9000",
                "seal -> true", "ask 0 3 9", "ask 1 3 9", "draw 0 9000", "sensor 0 7 false", "sensor 1 9 true",
                "period -> 0", "tick 3 -> 3", "ask 2 2 2", "open", Runs.state("tick 1", "period"), STAR, "power 3 9000",
                "power 2 9000", "power 1 9000", "power 0 9", "seal -> true", Runs.each(CORES, "core % 0 -> 0"),
                Runs.each(CORES, "core % 1 -> -1"), Runs.each(CORES, "core % 3 -> 0"),
                Runs.each(NODES, "node % 3 -> 5000"), "period -> 0", "tick 8 -> 0");
        PROMISES.holds("It is as at first", "nothing goes over an edge that was", STAR, "edge 0 1 300 300", "open",
                STAR, TWO_TICKS, "node 1 0 -> 5000", "node 1 1 -> 5000", "node 0 0 -> 5199");
        PROMISES.holds("It is as at first", "behind waiting", STAR, "power 3 9000", "power 2 9000", "power 1 9000",
                "limit 0 5000", "seal -> true", "ask 0 1 0", "period -> 1", "core 0 2 -> 1", "open", STAR,
                "seal -> true", "core 0 2 -> 0");
    }
}
