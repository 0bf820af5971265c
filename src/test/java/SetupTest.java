/** Promises 1 to 8 and 18: a new object, and the numbers that can be told before it is sealed. */
public final class SetupTest {
    private static final String INDEX = " -> throws.IndexOutOfBoundsException\n";
    private static final String ARGUMENT = " -> throws.IllegalArgumentException\n";
    private static final String STATE = " -> throws.IllegalStateException\n";
    private static final int LEAST = Integer.MIN_VALUE;
    private static final int MOST = Integer.MAX_VALUE;

    private static final Runs RUNS = new Runs("SetupTest");

    private SetupTest() {
    }

    public static void main(String[] args) {
        newObject();
        capacity();
        edge();
        limit();
        air();
        power();
        leak();
        truth();
        sealedNumbers();
        open();
        RUNS.end();
    }

    private static void newObject() {
        RUNS.run("new: not sealed, without edges", "ask 0 0 0" + STATE, "period" + STATE, "tick 1" + STATE,
                "draw 0 0" + STATE, "sensor 0 0 true" + STATE, "ahead 0" + STATE, "node 0 0" + STATE,
                "core 0 0" + STATE, "seal -> false");
        StringBuilder noEdges = new StringBuilder();
        for (int a = 0; a < 7; a++) {
            for (int b = 0; b < 7; b++) {
                if (a != b) {
                    noEdges.append("truth " + a + " " + b + " 0\n").append("truth " + a + " " + b + " 1" + ARGUMENT);
                }
            }
        }
        RUNS.run("new: no edge", noEdges.toString());
        for (int n = 0; n < 6; n++) {
            String same = "truth " + n + " " + n + " ";
            RUNS.run("new: capacity of " + n, same + "1000", same + "999" + ARGUMENT, same + "1001" + ARGUMENT);
            RUNS.run("new: limit of " + n, Runs.STAR, limitsBut(n, 50000), "air 0 0 20001", "seal -> false",
                    "air 0 0 20000", "seal -> true");
            RUNS.run("new: air", Runs.STAR, "seal -> true", "node " + n + " 0 -> 5000", "node " + n + " 1 -> 5000");
        }
        RUNS.run("new: no power and no leak", Runs.STAR, """
                power 2 1 -> throws.IllegalArgumentException
                power 0 1 -> throws.IllegalArgumentException
                seal -> true
                ask 0 3 0
                period -> 0
                draw 0 1000000
                core 0 0 -> 3
                core 0 3 -> 0
                tick 8 -> 8
                node 0 0 -> 5000
                node 0 1 -> 5000
                """);
    }

    private static String limitsBut(int but, int t) {
        StringBuilder script = new StringBuilder();
        for (int n = 0; n < 6; n++) {
            if (n != but) {
                script.append("limit " + n + " " + t + "\n");
            }
        }
        return script.toString();
    }

    private static void capacity() {
        RUNS.run("capacity: its range", "capacity 0 1 10000", "capacity 5 1 1", "capacity 3 10000 10000",
                "capacity 0 0 1" + ARGUMENT, "capacity 0 1 10001" + ARGUMENT, "capacity 0 10001 10001" + ARGUMENT,
                "capacity 0 7 6" + ARGUMENT, "capacity 0 -5 -4" + ARGUMENT, "capacity 0 " + LEAST + " 5" + ARGUMENT,
                "capacity 0 5 " + MOST + ARGUMENT);
        RUNS.run("capacity: its nodes", "capacity 6 1 1" + INDEX, "capacity -1 1 1" + INDEX,
                "capacity " + LEAST + " 1 1" + INDEX, "capacity " + MOST + " 1 1" + INDEX, "capacity 6 0 0" + INDEX);
        RUNS.run("capacity: what throws changes nothing", "capacity 2 300 400", "capacity 2 1 10001" + ARGUMENT,
                "truth 2 2 300", "truth 2 2 400", "truth 2 2 299" + ARGUMENT, "truth 2 2 401" + ARGUMENT);
        // Up with 40000 / 400, and down again with -10000 / 400 or, of the bound, -10000 / 499 rounded up.
        String upAndDown = "edge 0 6 100 100\npower 3 40000\nseal -> true\nsensor 0 0 false\nask 0 3 0\n"
                + "period -> 0\ndraw 0 40000\ntick 1 -> 1\n";
        RUNS.run("capacity: the true one is low", Runs.STAR, "capacity 0 400 499", upAndDown, "node 0 0 -> 5100",
                "node 0 1 -> 5100", "period -> 0", "tick 1 -> 0", "node 0 0 -> 5075", "node 0 1 -> 5080");
        RUNS.run("capacity: low again after a truth", Runs.STAR, "capacity 0 400 499", "truth 0 0 450",
                "capacity 0 400 499", upAndDown, "node 0 0 -> 5100");
        RUNS.run("truth: the true capacity, rounded down", Runs.STAR, "capacity 0 400 499", "truth 0 0 450", upAndDown,
                "node 0 0 -> 5088", "node 0 1 -> 5100");
    }

    private static void edge() {
        RUNS.run("edge: its range", "edge 0 1 0 0", "edge 6 5 0 500", "edge 4 6 500 500", "edge 0 6 0 501" + ARGUMENT,
                "edge 0 6 501 501" + ARGUMENT, "edge 0 6 -1 5" + ARGUMENT, "edge 0 6 6 5" + ARGUMENT,
                "edge 0 6 " + LEAST + " 5" + ARGUMENT, "edge 0 6 5 " + MOST + ARGUMENT);
        RUNS.run("edge: its ends", "edge 0 0 1 1" + INDEX, "edge 6 6 1 1" + INDEX, "edge 7 0 1 1" + INDEX,
                "edge 0 7 1 1" + INDEX, "edge -1 0 1 1" + INDEX, "edge 0 -1 1 1" + INDEX, "edge 3 3 9 1" + INDEX,
                "edge " + MOST + " 0 1 1" + INDEX, "edge 0 " + LEAST + " 1 1" + INDEX);
        RUNS.run("edge: the same both ways", "edge 1 4 10 20", "truth 4 1 20", "truth 1 4 10", "truth 4 1 9" + ARGUMENT,
                "truth 1 4 21" + ARGUMENT, "edge 4 1 30 30", "truth 1 4 30", "truth 1 4 20" + ARGUMENT);
        RUNS.run("edge: what throws changes nothing", "edge 1 4 10 20", "edge 1 4 0 501" + ARGUMENT, "truth 1 4 20",
                "truth 1 4 9" + ARGUMENT);
        RUNS.run("edge: 0 and 0 is none", Runs.STAR, "edge 6 3 0 0", "seal -> false", "truth 3 6 1" + ARGUMENT,
                "edge 3 6 1 1", "seal -> true");
        // Core 0 warms by 100; then core 1 takes at most 20 * 100 from it, and truly what is true.
        String twoTicks = "power 3 100000\nseal -> true\nask 0 3 0\nperiod -> 0\ndraw 0 100000\ntick 2 -> 2\n";
        String ranged = "edge 0 1 10 20\n";
        RUNS.run("edge: the true one is low", Runs.STAR, ranged, twoTicks, "node 1 0 -> 5001", "node 1 1 -> 5002",
                "node 0 0 -> 5198", "node 0 1 -> 5199");
        RUNS.run("edge: the same from its other end", Runs.STAR, ranged, twoTicks.replace("ask 0", "ask 1").replace("draw 0", "draw 1"), "node 0 0 -> 5001",
                "node 0 1 -> 5002", "node 1 0 -> 5198", "node 1 1 -> 5199");
        RUNS.run("edge: low again after a truth", Runs.STAR, ranged, "truth 0 1 20", ranged, twoTicks,
                "node 1 0 -> 5001", "node 0 0 -> 5198");
        RUNS.run("truth: the true conductance", Runs.STAR, ranged, "truth 1 0 20", twoTicks, "node 1 0 -> 5002",
                "node 1 1 -> 5002", "node 0 0 -> 5197", "node 0 1 -> 5199");
    }

    private static void limit() {
        RUNS.run("limit: its range", "limit 0 0", "limit 5 50000", "limit 0 -1" + ARGUMENT, "limit 0 50001" + ARGUMENT,
                "limit 0 " + LEAST + ARGUMENT, "limit 0 " + MOST + ARGUMENT);
        RUNS.run("limit: its nodes", "limit 6 0" + INDEX, "limit -1 0" + INDEX, "limit 6 -1" + INDEX);
        for (int n = 0; n < 6; n++) {
            RUNS.run("limit: of node " + n, Runs.STAR, "limit " + n + " 4999", "seal -> false",
                    "limit " + n + " 50001" + ARGUMENT, "seal -> false", "limit " + n + " 5000", "seal -> true");
        }
    }

    private static void air() {
        RUNS.run("air: its range", "air 0 0 0", "air 50000 50000 50000", "air 0 7 50000", "air -1 0 0" + ARGUMENT,
                "air 0 0 50001" + ARGUMENT, "air 2 1 3" + ARGUMENT, "air 2 4 3" + ARGUMENT, "air 3 3 2" + ARGUMENT,
                "air " + LEAST + " 0 0" + ARGUMENT, "air 0 0 " + MOST + ARGUMENT);
        RUNS.run("air: what is true and what is worst", Runs.STAR, """
                air 1000 2000 3000
                air 1000 2000 50001 -> throws.IllegalArgumentException
                seal -> true
                node 0 0 -> 2000
                node 5 0 -> 2000
                node 0 1 -> 3000
                node 5 1 -> 3000
                node 5 2 -> 3000
                sensor 5 0 false
                tick 1 -> 0
                node 0 0 -> 2000
                node 0 1 -> 2200
                node 5 1 -> 3000
                sensor 0 0 false
                tick 1 -> 0
                node 0 1 -> 2201
                node 0 0 -> 2000
                node 5 1 -> 3000
                """);
    }

    private static void power() {
        RUNS.run("power: its range", "power 3 1000001" + ARGUMENT, "power 3 -1" + ARGUMENT, "power 0 -1" + ARGUMENT,
                "power 3 " + MOST + ARGUMENT, "power 0 " + LEAST + ARGUMENT, "power 3 1000000", "power 2 1000000",
                "power 2 1000001" + ARGUMENT, "power 0 0");
        RUNS.run("power: its steps", "power 4 0" + INDEX, "power -1 0" + INDEX, "power 4 -1" + INDEX,
                "power " + MOST + " 0" + INDEX, "power " + LEAST + " 0" + INDEX);
        RUNS.run("power: rising or the same", "power 3 30", "power 2 31" + ARGUMENT, "power 2 20", "power 1 21" + ARGUMENT,
                "power 1 20", "power 0 10", "power 1 9" + ARGUMENT, "power 1 10", "power 2 9" + ARGUMENT,
                "power 3 19" + ARGUMENT, "power 3 20", "power 0 11" + ARGUMENT, "power 2 21" + ARGUMENT, "power 2 10");
        RUNS.run("power: of each step", Runs.STAR, """
                power 3 400
                power 2 300
                power 1 200
                power 0 100
                power 1 301 -> throws.IllegalArgumentException
                seal -> true
                draw 0 1000
                draw 1 1000
                draw 2 1000
                draw 3 1000
                ask 1 1 0
                ask 2 2 0
                ask 3 3 0
                period -> 0
                core 0 3 -> 100
                core 1 3 -> 200
                core 2 3 -> 300
                core 3 3 -> 400
                """);
    }

    private static void leak() {
        RUNS.run("leak: its range", "leak 0 0 0 0", "leak 100000 100 100 50000", "leak -1 0 0 0" + ARGUMENT,
                "leak 100001 0 0 0" + ARGUMENT, "leak 0 -1 0 0" + ARGUMENT, "leak 0 101 0 0" + ARGUMENT,
                "leak 0 0 -1 0" + ARGUMENT, "leak 0 0 101 0" + ARGUMENT, "leak 0 0 0 -1" + ARGUMENT,
                "leak 0 0 0 50001" + ARGUMENT, "leak " + MOST + " 0 0 0" + ARGUMENT, "leak 0 0 0 " + LEAST + ARGUMENT);
        // 1000 + 2 * 5000; then, at 5011, 1000 + 2 * 5011 + 40 * 10 less 100 * 11 that goes into the air.
        RUNS.run("leak: of cores, and more above the knee", Runs.STAR, """
                edge 0 6 100 100
                edge 1 6 100 100
                edge 2 6 100 100
                edge 3 6 100 100
                leak 1000 2 40 5001
                leak 1000 2 101 5001 -> throws.IllegalArgumentException
                seal -> true
                tick 1 -> 0
                node 0 0 -> 5011
                node 3 0 -> 5011
                node 3 1 -> 5011
                node 4 0 -> 5000
                node 5 1 -> 5000
                tick 1 -> 0
                node 0 0 -> 5021
                node 0 1 -> 5022
                node 3 0 -> 5021
                """);
    }

    private static void truth() {
        RUNS.run("truth: its ends", "truth 6 6 0" + INDEX, "truth 7 0 0" + INDEX, "truth 0 7 0" + INDEX,
                "truth -1 0 0" + INDEX, "truth 0 -1 0" + INDEX, "truth 7 7 0" + INDEX, "truth -1 -1 0" + INDEX,
                "truth 6 6 -1" + INDEX, "truth " + MOST + " 0 0" + INDEX, "truth 0 " + LEAST + " 0" + INDEX);
        RUNS.run("truth: within the range", "capacity 1 10 20", "edge 1 6 3 4", "truth 1 1 10", "truth 1 1 20",
                "truth 1 1 9" + ARGUMENT, "truth 1 1 21" + ARGUMENT, "truth 1 6 3", "truth 6 1 4",
                "truth 1 6 2" + ARGUMENT, "truth 6 1 5" + ARGUMENT, "truth 0 1 0", "truth 0 1 1" + ARGUMENT,
                "truth 0 1 -1" + ARGUMENT);
        RUNS.run("truth: no edge comes of it", Runs.STAR, "edge 0 6 0 0", "truth 0 6 0", "seal -> false");
        // Core 0 is above the air by 100 and loses 5 * 100, not 1 * 100, in the second tick.
        RUNS.run("truth: of an edge to the air", Runs.STAR, """
                edge 0 6 1 5
                truth 0 6 5
                truth 0 6 6 -> throws.IllegalArgumentException
                power 3 100000
                seal -> true
                ask 0 3 0
                period -> 0
                draw 0 100000
                tick 2 -> 2
                node 0 0 -> 5199
                node 0 1 -> 5200
                draw 0 0
                tick 1 -> 1
                node 0 0 -> 5198
                """);
    }

    private static void sealedNumbers() {
        String[] right = {"capacity 0 1000 1000", "edge 0 6 1 1", "limit 0 20000", "air 5000 5000 5000", "power 3 0",
            "leak 0 0 0 0", "truth 0 0 1000", "truth 0 6 1", "seal"};
        String[] wrongIndex = {"capacity 6 0 0", "edge 0 0 9 1", "limit 6 -1", "power 4 -1", "truth 6 6 -1"};
        String[] wrongNumber = {"capacity 0 0 0", "edge 0 6 9 1", "limit 0 -1", "air 1 0 0", "power 3 -1", "power 2 1",
            "leak -1 0 0 0", "truth 0 0 999", "truth 0 6 2", "truth 0 1 1"};
        StringBuilder script = new StringBuilder(Runs.STAR + "seal -> true\n");
        for (String call : right) {
            script.append(call).append(STATE);
        }
        for (String call : wrongIndex) {
            script.append(call).append(INDEX);
        }
        for (String call : wrongNumber) {
            script.append(call).append(ARGUMENT);
        }
        RUNS.run("sealed: no number can be changed", script.toString());
    }

    private static void open() {
        String all = """
                capacity 0 2000 3000
                edge 0 1 5 9
                limit 0 9000
                limit 1 9000
                air 6000 7000 8000
                power 3 500000
                power 2 500000
                power 1 500000
                power 0 20
                leak 10 0 1 7990
                edge 0 6 10 10
                edge 1 6 10 10
                edge 2 6 10 10
                edge 3 6 10 10
                seal -> true
                sensor 0 50 false
                sensor 5 -50 true
                draw 0 70
                draw 1 70
                ask 0 3 2
                ask 1 3 2
                ask 2 3 1
                period -> 3
                core 1 2 -> 1
                core 2 0 -> 3
                ask 1 2 1
                tick 3 -> 3
                open
                """;
        RUNS.run("open: without anything told", "open", "seal -> false", Runs.STAR, "open", "seal -> false");
        RUNS.run("open: not sealed, no edges", Runs.STAR, all, "node 0 0" + STATE, "seal -> false",
                "truth 0 1 5" + ARGUMENT, "truth 0 1 0", "truth 1 0 0", "truth 0 6 1" + ARGUMENT, "truth 0 0 1000", "truth 0 0 2000" + ARGUMENT,
                "power 2 1" + ARGUMENT);
        RUNS.run("open: no leak, the first air, no powers", Runs.STAR, all, Runs.STAR, """
                seal -> true
                core 0 0 -> 0
                core 2 0 -> 0
                core 1 1 -> -1
                core 1 2 -> 0
                core 1 3 -> 0
                node 0 0 -> 5000
                node 0 1 -> 5000
                node 0 2 -> 5000
                node 0 3 -> 5000
                node 5 3 -> 5000
                period -> 0
                tick 1 -> 0
                node 0 0 -> 5000
                node 0 1 -> 5000
                """);
        RUNS.run("open: draws and limits are gone", Runs.STAR, all, Runs.STAR, """
                air 0 0 20001
                limit 1 20001
                limit 2 20001
                limit 3 20001
                limit 4 20001
                limit 5 20001
                seal -> false
                limit 0 20001
                power 3 70
                power 2 70
                power 1 70
                power 0 70
                air 0 0 5000
                seal -> true
                core 0 3 -> 0
                """);
        RUNS.run("open: nothing goes along an edge that is gone", Runs.STAR, "edge 0 1 200 200", "open", Runs.STAR,
                "power 3 100000", "seal -> true", "ask 0 3 0", "period -> 0", "draw 0 100000", "tick 4 -> 4",
                "node 1 0 -> 5000", "node 1 1 -> 5000");
    }
}
