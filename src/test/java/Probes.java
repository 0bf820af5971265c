import java.util.ArrayList;
import java.util.List;

/** Governors brought to where all is other than at first, and long rows of calls that read all there is of them. */
final class Probes {
    private static final String READ_ALL = Runs.each(Runs.NODES, "node % 0\nnode % 1\nnode % 2\nnode % 3")
            + Runs.each(Runs.CORES, "core % 0\ncore % 1\ncore % 2\ncore % 3");

    /** A package that can be sealed; each number is another than at first, and no range is one number. */
    static final String PACKAGE = """
            capacity 0 400 500
            capacity 1 410 510
            capacity 2 420 520
            capacity 3 430 530
            capacity 4 1000 1200
            capacity 5 1100 1300
            truth 0 0 450
            truth 1 1 460
            truth 2 2 470
            truth 3 3 480
            truth 4 4 1100
            truth 5 5 1200
            edge 0 4 50 60
            edge 1 4 51 61
            edge 2 4 52 62
            edge 3 4 53 63
            edge 4 5 180 200
            edge 5 6 190 210
            edge 0 1 20 40
            edge 3 5 20 30
            truth 0 4 53
            truth 1 4 54
            truth 2 4 55
            truth 3 4 56
            truth 4 5 185
            truth 5 6 195
            truth 0 1 25
            truth 3 5 25
            limit 0 8600
            limit 1 8610
            limit 2 9100
            limit 3 8400
            limit 4 6450
            limit 5 5790
            air 4600 4700 5000
            power 3 300000
            power 2 200000
            power 1 100000
            power 0 900
            leak 700 1 2 5300
            """;

    /** The package in the middle of a period, with wishes, waits, ranks, draws and sensors. */
    static final String LIFE = PACKAGE + """
            seal
            draw 0 300000
            draw 1 150000
            draw 2 70000
            sensor 1 -30 true
            sensor 4 20 true
            sensor 2 5 false
            ask 0 3 4
            ask 1 3 4
            ask 2 3 4
            ask 3 3 4
            period
            tick 3
            ask 0 3 2
            ask 1 3 4
            ask 2 3 4
            ask 3 3 3
            """;

    /** What can be seen of a package that is not sealed, all of it by sealing it. */
    static final String BEFORE_SEALING = "seal\n" + READ_ALL + aheads() + "tick 1\n" + Runs.each(Runs.NODES,
            "sensor % 0 false") + Runs.each(Runs.CORES,
            "draw % 400000") + "ask 2 3 0\nperiod\ntick 9\n" + READ_ALL + Runs.each(Runs.CORES,
            "ask % 3 %") + "period\ntick 3\n" + READ_ALL + "tick 30\n" + READ_ALL + Runs.each(Runs.CORES,
            "ask % 1 0") + "period\ntick 5\n" + READ_ALL;

    /** What can be seen of a sealed package, now and by what comes. */
    static final String AFTER_SEALING = READ_ALL + aheads() + "tick 4\n" + READ_ALL + "period\ntick 1\n"
            + Runs.each(Runs.CORES, "ask % 3 1") + "tick 4\nperiod\ntick 9\n" + READ_ALL + "seal\n";

    private Probes() {
    }

    private static String aheads() {
        StringBuilder calls = new StringBuilder();
        for (int steps = 0; steps < 256; steps += 3) {
            calls.append("ahead " + steps + "\n");
        }
        return calls.toString();
    }

    /** A new governor behind the calls, of which none may throw. */
    static HeatGovernor made(String script) {
        HeatGovernor governor = new HeatGovernor();
        for (String call : script.split("\n")) {
            if (Answers.of(governor, call).startsWith("throws.")) {
                throw new AssertionError(call + " throws");
            }
        }
        return governor;
    }

    static List<String> answers(HeatGovernor governor, String script) {
        List<String> answers = new ArrayList<>();
        for (String call : script.split("\n")) {
            answers.add(Answers.of(governor, call));
        }
        return answers;
    }
}
