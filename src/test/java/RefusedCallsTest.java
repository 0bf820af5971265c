import java.util.ArrayList;
import java.util.Arrays;
import java.util.List;

/**
 * "A call that throws changes nothing; where several exceptions that a call names fit, it is the
 * one that it names first": every call with all its right and wrong numbers put together, before
 * the sealing and after it; and what else must change nothing, or all.
 */
public final class RefusedCallsTest {
    private static final Runs RUNS = new Runs("RefusedCallsTest");

    private RefusedCallsTest() {
    }

    public static void main(String[] args) {
        numbersAreSeen();
        eventsAreSeen();
        refusedCalls(false, Probes.PACKAGE, Probes.BEFORE_SEALING);
        refusedCalls(true, Probes.LIFE, Probes.AFTER_SEALING);
        refusedSealings();
        looks();
        opened();
        RUNS.end();
    }

    private static void refusedCalls(boolean sealed, String before, String probe) {
        List<String> untouched = Probes.answers(Probes.made(before), probe);
        for (CallTable.Row row : CallTable.rows()) {
            String due = row.exception(sealed);
            HeatGovernor governor = Probes.made(before);
            String got = Answers.of(governor, row.call());
            String what = row.call() + (sealed ? ", sealed" : ", not sealed");
            RUNS.same(what, got.startsWith("throws.") ? got : "", due);
            if (!due.isEmpty()) {
                RUNS.same("the probe behind " + what, Probes.answers(governor, probe), untouched);
            }
        }
    }

    /** Not joined, not steady, not safe: each is told, refused and told back. */
    private static void refusedSealings() {
        same("a sealing that is not joined", Probes.PACKAGE + "edge 5 6 0 0\nseal\nedge 5 6 190 210\ntruth 5 6 195\n",
                Probes.PACKAGE);
        same("a sealing that is not steady",
                Probes.PACKAGE + "capacity 4 1 1200\nseal\ncapacity 4 1000 1200\ntruth 4 4 1100\n", Probes.PACKAGE);
        same("a sealing that is not safe", Probes.PACKAGE + "limit 4 0\nseal\nseal\nlimit 4 6450\n", Probes.PACKAGE);
        RUNS.same("the probe begins with a sealing", Probes.answers(Probes.made(Probes.PACKAGE),
                Probes.BEFORE_SEALING).get(0), "true");
    }

    private static void looks() {
        List<String> untouched = Probes.answers(Probes.made(Probes.LIFE), Probes.AFTER_SEALING);
        for (int steps = 0; steps < 256; steps++) {
            HeatGovernor governor = Probes.made(Probes.LIFE + "ahead " + steps);
            RUNS.same("the probe behind ahead " + steps, Probes.answers(governor, Probes.AFTER_SEALING), untouched);
        }
    }

    private static void opened() {
        same("an open before the sealing", Probes.PACKAGE + "open\n" + Probes.PACKAGE, Probes.PACKAGE);
        same("an open behind the sealing", Probes.LIFE + "open\n" + Probes.PACKAGE, Probes.PACKAGE);
        same("an open, and then as at first", Probes.LIFE + "open\n" + Runs.STAR, Runs.STAR);
        same("an open, and nothing more", Probes.LIFE + "open\n", "open\n");
    }

    private static void same(String what, String calls, String asIf) {
        RUNS.same("the probe behind " + what, Probes.answers(Probes.made(calls), Probes.BEFORE_SEALING),
                Probes.answers(Probes.made(asIf), Probes.BEFORE_SEALING));
    }

    /** The probe is worth nothing if a number could change behind its back. */
    private static void numbersAreSeen() {
        List<String> changes = new ArrayList<>(List.of("air 4600 4701 5000", "air 4600 4700 5001", "power 3 300500",
                "power 2 200500", "power 1 100500", "power 0 990", "leak 790 1 2 5300", "leak 700 2 2 5300",
                "leak 700 1 3 5300", "leak 700 1 2 5350"));
        for (String call : Probes.PACKAGE.split("\n")) {
            changes.addAll(changes(call.split(" ")));
        }
        List<String> untouched = Probes.answers(Probes.made(Probes.PACKAGE), Probes.BEFORE_SEALING);
        for (String change : changes) {
            HeatGovernor governor = Probes.made(Probes.PACKAGE + change);
            RUNS.same("unseen: " + change, Probes.answers(governor, Probes.BEFORE_SEALING).equals(untouched), false);
        }
    }

    /** Calls that change one number alone of those that the call told. */
    private static List<String> changes(String[] told) {
        String ends = told[1] + " " + told[told[0].equals("capacity") ? 1 : 2];
        switch (told[0]) {
            case "limit":
                return List.of("limit " + told[1] + " 50000");
            case "truth":
                int by = told[1].equals(told[2]) ? 20 : 5;
                return List.of("truth " + ends + " " + (Integer.parseInt(told[3]) + by));
            case "capacity":
                return wider("capacity " + told[1], ends, told, 100);
            case "edge":
                return wider("edge " + ends, ends, told, 10);
            default:
                return List.of();
        }
    }

    /** A lesser low one, and a greater high one, each with the true one as it was. */
    private static List<String> wider(String call, String ends, String[] told, int by) {
        int low = Integer.parseInt(told[told.length - 2]);
        int high = Integer.parseInt(told[told.length - 1]);
        String asBefore = "\n" + Probes.PACKAGE.replaceAll("(?s).*(truth " + ends + " \\d+).*", "$1");
        return List.of(call + " " + (low - by) + " " + high + asBefore,
                call + " " + low + " " + (high + by) + asBefore);
    }

    private static void eventsAreSeen() {
        List<String> events = Arrays.asList("ask 0 2 2", "ask 0 3 9", "ask 1 3 0", "ask 2 3 0", "ask 3 3 9", "draw 0 0",
                "draw 1 7", "draw 2 7", "draw 3 7", "sensor 0 1 true", "sensor 1 -31 true", "sensor 2 5 true",
                "sensor 3 0 false", "sensor 4 21 true", "sensor 5 0 false", "period", "tick 1", "open");
        List<String> untouched = Probes.answers(Probes.made(Probes.LIFE), Probes.AFTER_SEALING);
        for (String event : events) {
            HeatGovernor governor = Probes.made(Probes.LIFE + event);
            RUNS.same("unseen: " + event, Probes.answers(governor, Probes.AFTER_SEALING).equals(untouched), false);
        }
    }
}
