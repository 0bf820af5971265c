/** Promises 12, 13, 14 and 16: ticks, draws, sensors, and what a node tells. */
public final class TickTest {
    private static final Runs RUNS = new Runs("TickTest");
    private static final String TENS = Runs.STAR + "power 3 30000\npower 2 20000\npower 1 10000\n";

    private TickTest() {
    }

    public static void main(String[] args) {
        wrongInputs();
        counting();
        drawing();
        sensing();
        peaks();
        together();
        RUNS.end();
    }

    private static void wrongInputs() {
        RUNS.run("tick: its range", "tick 1 -> throws.IllegalStateException", "tick 0 -> throws.IllegalArgumentException",
                TENS, """
                seal -> true
                tick 0 -> throws.IllegalArgumentException
                tick 101 -> throws.IllegalArgumentException
                tick -1 -> throws.IllegalArgumentException
                tick 2147483647 -> throws.IllegalArgumentException
                tick -2147483648 -> throws.IllegalArgumentException
                tick 1 -> 0
                tick 100 -> 0
                """);
        RUNS.run("draw: its range", "draw 0 0 -> throws.IllegalStateException", "draw 4 -1 -> throws.IndexOutOfBoundsException",
                "draw 0 -1 -> throws.IllegalArgumentException", TENS, """
                seal -> true
                draw 4 0 -> throws.IndexOutOfBoundsException
                draw -1 0 -> throws.IndexOutOfBoundsException
                draw 4 -1 -> throws.IndexOutOfBoundsException
                draw 0 -1 -> throws.IllegalArgumentException
                draw 0 1000001 -> throws.IllegalArgumentException
                draw 0 1000000
                draw 3 0
                """);
        RUNS.run("sensor: its range", "sensor 0 0 true -> throws.IllegalStateException",
                "sensor 6 201 true -> throws.IndexOutOfBoundsException", "sensor 0 201 true -> throws.IllegalArgumentException",
                TENS, """
                seal -> true
                sensor 6 0 true -> throws.IndexOutOfBoundsException
                sensor -1 0 true -> throws.IndexOutOfBoundsException
                sensor 6 201 true -> throws.IndexOutOfBoundsException
                sensor 0 201 true -> throws.IllegalArgumentException
                sensor 0 -201 false -> throws.IllegalArgumentException
                node 0 3 -> 5000
                sensor 0 200 true
                node 0 3 -> 5200
                sensor 5 -200 true
                node 5 3 -> 4800
                """);
        RUNS.run("node: its range", "node 0 0 -> throws.IllegalStateException", "node 6 0 -> throws.IndexOutOfBoundsException",
                "node 0 4 -> throws.IndexOutOfBoundsException", TENS, """
                seal -> true
                node 6 0 -> throws.IndexOutOfBoundsException
                node -1 0 -> throws.IndexOutOfBoundsException
                node 0 4 -> throws.IndexOutOfBoundsException
                node 0 -1 -> throws.IndexOutOfBoundsException
                node 5 2 -> 5000
                """);
    }

    private static void counting() {
        RUNS.run("steps hold for eight ticks over all calls", TENS, """
                seal -> true
                ask 1 2 0
                period -> 0
                tick 3 -> 3
                tick 4 -> 4
                core 1 0 -> 2
                tick 1 -> 1
                core 1 0 -> 0
                tick 1 -> 0
                node 1 1 -> 5160
                """);
        RUNS.run("more ticks than the steps hold", TENS, "seal -> true", "ask 0 1 0", "period -> 0", "tick 7 -> 7",
                "tick 100 -> 1", "ask 0 1 0", "period -> 0", "tick 100 -> 8", "tick 100 -> 0");
        RUNS.run("a period begun before the end holds for eight again", TENS, """
                seal -> true
                ask 0 3 0
                period -> 0
                tick 6 -> 6
                ask 1 1 0
                period -> 0
                core 0 0 -> 0
                tick 7 -> 7
                core 1 0 -> 1
                tick 9 -> 1
                node 1 1 -> 5080
                """);
        RUNS.run("steps 0 do not count", TENS, "seal -> true", "ask 0 0 0", "period -> 0", "tick 8 -> 0",
                "ask 0 1 0", "period -> 0", "tick 2 -> 2", "period -> 0", "tick 8 -> 0");
        RUNS.run("ticks without a period hold nothing", TENS, "seal -> true", "tick 8 -> 0", "ask 0 1 0", "tick 8 -> 0",
                "period -> 0", "tick 8 -> 8");
    }

    private static void drawing() {
        RUNS.run("what is told, P of the step at most", TENS, """
                edge 0 6 100 100
                edge 1 6 100 100
                edge 2 6 100 100
                edge 3 6 100 100
                power 0 5000
                seal -> true
                core 0 3 -> 0
                draw 0 4000
                core 0 3 -> 4000
                draw 0 25000
                core 0 3 -> 5000
                draw 1 25000
                draw 2 25000
                ask 1 2 0
                ask 2 3 0
                period -> 0
                core 0 3 -> 5000
                core 1 3 -> 20000
                core 2 3 -> 25000
                core 3 3 -> 0
                tick 1 -> 1
                node 0 0 -> 5005
                node 1 0 -> 5020
                node 2 0 -> 5025
                node 3 0 -> 5000
                node 0 1 -> 5005
                node 1 1 -> 5020
                node 2 1 -> 5030
                node 3 1 -> 5005
                draw 2 1500
                draw 1 1000001 -> throws.IllegalArgumentException
                core 1 3 -> 20000
                tick 1 -> 1
                node 2 0 -> 5024
                node 1 0 -> 5038
                tick 7 -> 6
                core 1 3 -> 5000
                """);
    }

    private static void sensing() {
        RUNS.run("a bound is at most the reading and 200", TENS, """
                air 4000 4000 5000
                seal -> true
                sensor 0 -200 true
                sensor 1 200 true
                sensor 2 0 false
                sensor 3 100 true
                node 0 1 -> 5000
                tick 1 -> 0
                node 0 1 -> 4000
                node 1 1 -> 4400
                node 2 1 -> 5000
                node 3 1 -> 4300
                node 4 1 -> 4200
                node 0 3 -> 3800
                node 1 3 -> 4200
                node 2 3 -> -1
                node 4 3 -> 4000
                sensor 0 -200 false
                sensor 2 7 true
                node 0 3 -> -1
                node 2 3 -> 4007
                node 2 1 -> 5000
                tick 3 -> 0
                node 0 1 -> 4003
                node 2 1 -> 4207
                node 0 0 -> 4000
                """);
        RUNS.run("a reading may be below 0", Runs.STAR, "air 0 0 0", "seal -> true", "sensor 0 -5 true", "node 0 3 -> -5",
                "sensor 1 -200 true", "tick 1 -> 0", "node 0 1 -> 0", "node 1 1 -> 0", "node 1 3 -> -200");
        RUNS.run("an error changes no temperature", Runs.STAR, "seal -> true", "sensor 4 150 true", "tick 5 -> 0",
                "node 4 0 -> 5000", "node 4 1 -> 5000", "node 4 3 -> 5150");
    }

    private static void peaks() {
        RUNS.run("a peak stays when the bound falls", TENS, """
                edge 0 6 100 100
                seal -> true
                sensor 0 0 false
                ask 0 3 0
                period -> 0
                tick 1 -> 1
                node 0 2 -> 5030
                period -> 0
                tick 2 -> 0
                node 0 1 -> 5025
                node 0 2 -> 5030
                node 1 2 -> 5000
                """);
        // The tick brings core 0 to 5030, its sensor to 5000 at once: it never had more than 5000.
        RUNS.run("a peak is what the sensor leaves of a bound", TENS, "seal -> true", "sensor 0 -200 true", "ask 0 3 0",
                "period -> 0", "tick 1 -> 1", "node 0 1 -> 5000", "node 0 2 -> 5000");
        RUNS.run("a peak at the sealing counts", TENS, "air 4000 4000 5000", "seal -> true", "tick 1 -> 0",
                "node 0 1 -> 4200", "node 0 2 -> 5000");
    }

    /** Core 0 gains 90; then core 1 takes from what core 0 was, not from what it becomes. */
    private static void together() {
        RUNS.run("all nodes at once", Runs.STAR, """
                edge 0 1 100 100
                edge 1 2 100 100
                power 3 90000
                seal -> true
                ask 0 3 0
                draw 0 90000
                period -> 0
                tick 1 -> 1
                node 0 0 -> 5090
                node 1 0 -> 5000
                node 1 1 -> 5000
                tick 1 -> 1
                node 0 0 -> 5170
                node 0 1 -> 5171
                node 1 0 -> 5009
                node 1 1 -> 5009
                node 2 0 -> 5000
                tick 1 -> 1
                node 2 0 -> 5000
                node 2 1 -> 5001
                """);
        RUNS.run("the spreader and the board, too", Runs.STAR, """
                edge 0 4 100 100
                edge 4 5 100 100
                power 3 90000
                seal -> true
                ask 0 3 0
                draw 0 90000
                period -> 0
                tick 2 -> 2
                node 4 0 -> 5009
                node 4 1 -> 5009
                node 5 0 -> 5000
                tick 1 -> 1
                node 4 0 -> 5024
                node 4 1 -> 5025
                node 5 0 -> 5000
                node 5 1 -> 5001
                tick 1 -> 1
                node 5 0 -> 5002
                """);
        RUNS.run("true temperatures are rounded down, bounds up", Runs.STAR, """
                edge 0 6 7 7
                power 3 1001
                seal -> true
                ask 0 3 0
                draw 0 1001
                period -> 0
                tick 1 -> 1
                node 0 0 -> 5001
                node 0 1 -> 5002
                period -> 0
                tick 1 -> 0
                node 0 0 -> 5000
                node 0 1 -> 5002
                """);
    }
}
