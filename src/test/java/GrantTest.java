/** Promises 10, 11, 15 and 17: wishes, what a period grants, looking ahead, and what a core tells. */
public final class GrantTest {
    private static final Runs RUNS = new Runs("GrantTest");

    /** A core's bound grows by 10, 20 or 30 a tick at step 1, 2 or 3, so by 80, 160 or 240 in a period. */
    private static final String TENS = Runs.STAR + "power 3 30000\npower 2 20000\npower 1 10000\n";

    /** Each step of a core brings the spreader up by some 310: its limit leaves four steps to all cores together. */
    private static final String SHARED = """
            capacity 0 400 400
            capacity 1 400 400
            capacity 2 400 400
            capacity 3 400 400
            capacity 4 2000 2000
            capacity 5 8000 8000
            edge 0 4 40 40
            edge 1 4 40 40
            edge 2 4 40 40
            edge 3 4 40 40
            edge 4 5 100 100
            edge 5 6 150 150
            power 3 600000
            power 2 400000
            power 1 200000
            limit 4 6400
            seal -> true
            ahead 3 -> true
            ahead 12 -> true
            ahead 48 -> true
            ahead 192 -> true
            ahead 7 -> true
            ahead 85 -> true
            ahead 11 -> false
            ahead 86 -> false
            """;

    private GrantTest() {
    }

    public static void main(String[] args) {
        wrongInputs();
        wishes();
        ownLimits();
        order();
        waiting();
        faster();
        lookingAhead();
        RUNS.end();
    }

    private static void wrongInputs() {
        RUNS.run("ask: not sealed", "ask 0 0 0 -> throws.IllegalStateException",
                "ask 4 0 0 -> throws.IndexOutOfBoundsException", "ask 4 4 10 -> throws.IndexOutOfBoundsException",
                "ask 0 4 0 -> throws.IllegalArgumentException", "ask 0 0 10 -> throws.IllegalArgumentException");
        RUNS.run("ask: its range", TENS, """
                seal -> true
                ask 4 0 0 -> throws.IndexOutOfBoundsException
                ask -1 0 0 -> throws.IndexOutOfBoundsException
                ask 4 4 10 -> throws.IndexOutOfBoundsException
                ask 0 4 0 -> throws.IllegalArgumentException
                ask 0 -1 0 -> throws.IllegalArgumentException
                ask 0 0 10 -> throws.IllegalArgumentException
                ask 0 0 -1 -> throws.IllegalArgumentException
                core 0 1 -> -1
                ask 0 3 9
                ask 3 0 0
                ask 0 4 0 -> throws.IllegalArgumentException
                core 0 1 -> 3
                core 3 1 -> 0
                """);
        RUNS.run("ahead: its range", "ahead 0 -> throws.IllegalStateException", "ahead 256 -> throws.IllegalArgumentException",
                TENS, "seal -> true", "ahead 0 -> true", "ahead 255 -> true", "ahead 256 -> throws.IllegalArgumentException",
                "ahead -1 -> throws.IllegalArgumentException", "ahead " + Integer.MIN_VALUE + " -> throws.IllegalArgumentException");
        RUNS.run("core: its range", "core 0 0 -> throws.IllegalStateException", "core 4 0 -> throws.IndexOutOfBoundsException",
                "core 0 4 -> throws.IndexOutOfBoundsException", TENS, """
                seal -> true
                core 4 0 -> throws.IndexOutOfBoundsException
                core -1 0 -> throws.IndexOutOfBoundsException
                core 0 4 -> throws.IndexOutOfBoundsException
                core 0 -1 -> throws.IndexOutOfBoundsException
                core 3 3 -> 0
                """);
        RUNS.run("period: not sealed", "period -> throws.IllegalStateException", Runs.STAR,
                "period -> throws.IllegalStateException");
    }

    private static void wishes() {
        RUNS.run("the latest wish counts and is gone with the period", TENS, """
                seal -> true
                ask 0 3 0
                ask 0 1 0
                ask 1 0 0
                ask 1 2 9
                core 0 1 -> 1
                core 0 0 -> 0
                core 2 1 -> -1
                period -> 0
                core 0 1 -> -1
                core 1 1 -> -1
                core 0 0 -> 1
                core 1 0 -> 2
                core 2 0 -> 0
                ask 1 3 0
                core 1 0 -> 2
                tick 2 -> 2
                core 0 0 -> 1
                core 1 1 -> 3
                period -> 0
                core 0 0 -> 0
                core 1 0 -> 3
                period -> 0
                core 1 0 -> 0
                """);
        RUNS.run("a wish lasts over ticks until the period", TENS, "seal -> true", "ask 2 2 0", "tick 100 -> 0",
                "core 2 1 -> 2", "core 2 0 -> 0", "period -> 0", "core 2 0 -> 2", "tick 1 -> 1");
    }

    private static void ownLimits() {
        RUNS.run("the greatest step that is safe", TENS, """
                limit 0 5160
                limit 1 5159
                limit 2 5079
                limit 3 5240
                seal -> true
                ask 0 3 0
                ask 1 3 0
                ask 2 3 0
                ask 3 3 0
                period -> 7
                core 0 0 -> 2
                core 1 0 -> 1
                core 2 0 -> 0
                core 3 0 -> 3
                core 0 2 -> 1
                core 1 2 -> 1
                core 2 2 -> 1
                core 3 2 -> 0
                tick 8 -> 8
                node 0 1 -> 5160
                node 1 1 -> 5080
                node 2 1 -> 5000
                node 3 1 -> 5200
                """);
        RUNS.run("not above the wish", TENS, "limit 3 5079", "seal -> true", "ask 0 1 0", "ask 3 1 0", "period -> 8",
                "core 0 0 -> 1", "core 3 0 -> 0");
    }

    private static void order() {
        String all = "ask 0 3 %d\nask 1 3 %d\nask 2 3 %d\nask 3 3 %d\n";
        RUNS.run("the lesser number first", SHARED, String.format(all, 4, 4, 4, 4), "period -> 14", steps(3, 1, 0, 0));
        RUNS.run("the greater rank first", SHARED, String.format(all, 0, 1, 9, 1), "period -> 11", steps(0, 1, 3, 0));
        RUNS.run("the last one first", SHARED, String.format(all, 0, 1, 2, 3), "period -> 7", steps(0, 0, 1, 3));
        RUNS.run("the rank of the latest wish", SHARED, String.format(all, 4, 9, 4, 4), "ask 1 3 0", "ask 3 3 5",
                "period -> 7", steps(1, 0, 0, 3));
        RUNS.run("no wish, no turn", SHARED, "ask 0 3 9", "period -> 0", "ask 1 3 0", "ask 3 3 0", "period -> 8",
                steps(0, 3, 0, 1));
        RUNS.run("all wishes, if they are safe", SHARED, "ask 1 1 3", "ask 2 2 4", "ahead 36 -> true", "period -> 0",
                steps(0, 1, 2, 0));
    }

    private static String steps(int... steps) {
        StringBuilder script = new StringBuilder();
        for (int k = 0; k < steps.length; k++) {
            script.append("core " + k + " 0 -> " + steps[k] + "\n");
        }
        return script.toString();
    }

    private static String waits(int... waits) {
        return steps(waits).replace(" 0 ->", " 2 ->");
    }

    private static void waiting() {
        String all = "ask 0 3 4\nask 1 3 4\nask 2 3 4\nask 3 3 4\n";
        RUNS.run("the one that waits longer goes first", SHARED, waits(0, 0, 0, 0), all, "period -> 14", steps(3, 1, 0, 0),
                waits(0, 1, 1, 1), all, "period -> 13", steps(0, 3, 1, 0), waits(1, 0, 2, 2), all, "period -> 11",
                steps(0, 0, 3, 1), waits(2, 1, 0, 3), all, "period -> 7", steps(1, 0, 0, 3), waits(3, 2, 1, 0));
        RUNS.run("rank goes before waiting", SHARED, all, "period -> 14", all, "ask 0 3 5", "period -> 14",
                steps(3, 1, 0, 0), waits(0, 2, 2, 2));
        RUNS.run("no wish, or a wish that is met, ends the waiting", SHARED, all, "period -> 14", all, "period -> 13",
                waits(1, 0, 2, 2), "ask 2 0 9", "ask 0 1 0", "period -> 0", waits(0, 0, 0, 0));
        RUNS.run("waiting goes over ticks", SHARED, all, "period -> 14", "tick 50 -> 8", waits(0, 1, 1, 1), all,
                waits(0, 1, 1, 1));
    }

    /** Core 0 is known to be cold in hot air: it comes to rest in time only if it is driven up. */
    private static void faster() {
        String cold = Runs.STAR + """
                capacity 0 10000 10000
                air 4000 4000 5000
                power 3 1000000
                power 2 500000
                power 1 500000
                limit 2 5000
                seal -> true
                sensor 1 0 false
                sensor 2 0 false
                sensor 3 0 false
                sensor 4 0 false
                sensor 5 0 false
                tick 1 -> 0
                node 0 1 -> 4200
                node 1 1 -> 5000
                ahead 0 -> false
                ahead 1 -> false
                ahead 2 -> false
                ahead 3 -> true
                """;
        RUNS.run("the greatest is safe, though lesser ones are not", cold, "ask 0 3 0", "period -> 0", steps(3, 0, 0, 0));
        RUNS.run("step 0, if none is safe", cold, "ask 0 2 0", "period -> 1", steps(0, 0, 0, 0), waits(1, 0, 0, 0));
        RUNS.run("a wish for step 0 is met, safe or not", cold, "ask 0 0 0", "period -> 0", waits(0, 0, 0, 0));
        RUNS.run("no wishes at all", cold, "period -> 0", steps(0, 0, 0, 0));
        RUNS.run("all wishes together are safe", cold, "ask 0 3 0", "ask 1 3 9", "period -> 0", steps(3, 3, 0, 0));
        RUNS.run("what is given before counts, what comes behind does not", cold, "ask 0 3 5", "ask 1 3 9", "ask 2 3 0",
                "ask 3 3 4", "period -> 6", steps(3, 0, 0, 3));
    }

    private static void lookingAhead() {
        RUNS.run("two bits a core", TENS, """
                limit 0 5080
                limit 1 5160
                limit 2 5240
                limit 3 5000
                seal -> true
                ahead 0 -> true
                ahead 1 -> true
                ahead 2 -> false
                ahead 4 -> true
                ahead 8 -> true
                ahead 12 -> false
                ahead 48 -> true
                ahead 57 -> true
                ahead 64 -> false
                ahead 128 -> false
                """);
        RUNS.run("nothing changes", TENS, "limit 0 5160", "seal -> true", "ask 0 1 0", "period -> 0", "ask 0 2 0",
                "ahead 3 -> false", "ahead 2 -> true", "core 0 0 -> 1", "core 0 1 -> 2", "node 0 1 -> 5000",
                "node 0 2 -> 5000", "tick 20 -> 8", "node 0 1 -> 5080");
        RUNS.run("the bounds as they are", TENS, """
                limit 0 5160
                seal -> true
                sensor 0 0 false
                ahead 2 -> true
                ask 0 1 0
                period -> 0
                tick 1 -> 1
                node 0 1 -> 5010
                ahead 2 -> false
                ahead 1 -> true
                tick 7 -> 7
                node 0 1 -> 5080
                ahead 1 -> true
                ahead 2 -> false
                """);
        // Up by 30, 27, 25, 22, 20, 18, 16 and 15 to 5173, and by the first tick of step 0 down to 5156.
        String brief = "edge 0 6 100 100\n";
        RUNS.run("above the limit at the end of the eight ticks alone", TENS, brief, "limit 0 5172", "seal -> true",
                "ahead 3 -> false");
        RUNS.run("at the limit at the end of the eight ticks", TENS, brief, "limit 0 5173", "seal -> true", "ahead 3 -> true",
                "ask 0 3 0", "period -> 0", "draw 0 30000", "tick 8 -> 8", "node 0 1 -> 5173", "tick 1 -> 0", "node 0 1 -> 5156");
        // Core 0 goes up to 5000 by one a tick: from 4743 in 8 and 249 ticks, and one more has none that grows.
        RUNS.run("one that does not grow must come within 250 ticks", Runs.STAR, """
                capacity 0 10000 10000
                air 4600 4600 5000
                seal -> true
                sensor 1 0 false
                sensor 2 0 false
                sensor 3 0 false
                sensor 4 0 false
                sensor 5 0 false
                sensor 0 -57 true
                tick 1 -> 0
                node 0 1 -> 4743
                ahead 0 -> true
                sensor 0 -58 true
                tick 1 -> 0
                node 0 1 -> 4742
                ahead 0 -> false
                """);
    }
}
