/** Promise 9: what is needed for sealing, and how a sealed package begins. */
public final class SealTest {
    private static final Runs RUNS = new Runs("SealTest");
    private static final String BIG = """
            capacity 0 10000 10000
            capacity 1 10000 10000
            capacity 2 10000 10000
            capacity 3 10000 10000
            capacity 4 10000 10000
            capacity 5 10000 10000
            """;

    private SealTest() {
    }

    public static void main(String[] args) {
        joined();
        steady();
        safe();
        begins();
        RUNS.end();
    }

    private static void joined() {
        RUNS.run("each node alone with the air", Runs.STAR, "seal -> true");
        for (int n = 0; n < 6; n++) {
            RUNS.run("node " + n + " not joined", Runs.STAR, "edge " + n + " 6 0 0", "seal -> false",
                    "edge " + (n + 1) % 6 + " " + n + " 0 1", "seal -> true");
        }
        String chain = "edge 0 1 1 1\nedge 1 2 1 1\nedge 2 3 1 1\nedge 3 4 1 1\nedge 4 5 1 1\n";
        RUNS.run("a chain up", chain, "seal -> false", "edge 5 6 1 1", "seal -> true");
        RUNS.run("a chain down", chain, "edge 6 0 1 1", "seal -> true");
        RUNS.run("a chain through all in another order", """
                edge 3 0 1 1
                edge 0 5 1 1
                edge 5 2 1 1
                edge 2 4 1 1
                edge 4 1 1 1
                seal -> false
                edge 1 6 1 1
                seal -> true
                seal -> throws.IllegalStateException
                """);
        RUNS.run("two that are joined with one another alone", Runs.STAR, "edge 0 6 0 0", "edge 1 6 0 0",
                "edge 0 1 9 9", "seal -> false", "edge 1 4 1 1", "seal -> true");
    }

    private static void steady() {
        for (int n = 0; n < 6; n++) {
            String hub = "edge " + n + " 6 0 30\nedge " + n + " " + (n + 1) % 6 + " 5 20\n";
            RUNS.run("twice the high conductances of " + n, Runs.STAR, hub, "capacity " + n + " 99 10000",
                    "seal -> false", "capacity " + n + " 100 100", "seal -> true");
        }
        String leaking = "edge 0 6 30 30\nleak 0 3 4 50000\nlimit 0 50000\nlimit 1 50000\nlimit 2 50000\nlimit 3 50000\n";
        String steadier = "edge 1 6 30 30\nedge 2 6 30 30\nedge 3 6 30 30\n";
        RUNS.run("twice slope and steep of a core", Runs.STAR, leaking, steadier, "air 0 0 0", "capacity 0 73 73",
                "seal -> false", "capacity 0 74 74", "seal -> true");
        RUNS.run("slope and steep of no other node", Runs.STAR, leaking, steadier, "air 0 0 0", "capacity 4 2 2",
                "capacity 5 2 2", "seal -> true");
    }

    private static void safe() {
        RUNS.run("a bound is above its limit at the beginning", Runs.STAR, "air 0 0 6000", "limit 4 5999",
                "seal -> false", "limit 4 6000", "seal -> true");
        // P[0] drives core 0 up by one a tick, to 5257: the last of 8 and 249 ticks; one more is too long.
        String slow = "power 3 258\npower 2 258\npower 1 258\n";
        RUNS.run("it takes too long until none grows", Runs.STAR, BIG, slow, "power 0 258", "seal -> false",
                "power 0 257", "seal -> true");
        RUNS.run("a bound comes above its limit", Runs.STAR, BIG, slow, "power 0 257", "limit 3 5256", "seal -> false",
                "limit 3 5257", "seal -> true");
        RUNS.run("the leak runs away", Runs.STAR, "leak 0 2 0 0", "seal -> false", "leak 0 0 2 5000", "seal -> true");
        RUNS.run("steps above 0 are not asked for", Runs.STAR, "power 3 1000000", "limit 0 5000", "seal -> true");
    }

    private static void begins() {
        String told = """
                air 1000 2000 3000
                power 3 900
                power 2 800
                power 1 700
                power 0 100
                seal -> true
                seal -> throws.IllegalStateException
                """;
        for (int n = 0; n < 6; n++) {
            RUNS.run("how node " + n + " begins", Runs.STAR, told, "node " + n + " 0 -> 2000", "node " + n + " 1 -> 3000",
                    "node " + n + " 2 -> 3000", "node " + n + " 3 -> 2000");
        }
        for (int k = 0; k < 4; k++) {
            RUNS.run("how core " + k + " begins", Runs.STAR, told, "core " + k + " 0 -> 0", "core " + k + " 1 -> -1",
                    "core " + k + " 2 -> 0", "core " + k + " 3 -> 0", "draw " + k + " 1000", "core " + k + " 3 -> 100");
        }
        RUNS.run("refused: nothing changes", Runs.STAR, "limit 0 4999", "truth 0 6 1", "seal -> false",
                "node 0 0 -> throws.IllegalStateException", "period -> throws.IllegalStateException", "seal -> false",
                "limit 0 5000", "seal -> true");
    }
}
