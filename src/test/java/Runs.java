/**
 * Runs of calls on new objects, of HeatGovernor and, so that no answer is due by mistake, of
 * PlainGovernor. A line is a call and, behind "->", its answer; a line without one is
 * a void call that must be done. What stands behind "#" is a remark.
 */
final class Runs {
    /** Each node with an edge of its own to the air. */
    static final String STAR = """
            edge 0 6 1 1
            edge 1 6 1 1
            edge 2 6 1 1
            edge 3 6 1 1
            edge 4 6 1 1
            edge 5 6 1 1
            """;

    private final String name;
    private int checked = 0;
    private int wrong = 0;

    Runs(String name) {
        this.name = name;
    }

    void run(String title, String... scripts) {
        runOn(new HeatGovernor(), title, scripts);
        runOn(new PlainGovernor(), title + " (by PlainGovernor)", scripts);
    }

    private void runOn(Object governor, String title, String... scripts) {
        int number = 0;
        for (String line : String.join("\n", scripts).split("\n")) {
            String row = line.replaceAll("#.*", "").trim();
            if (!row.isEmpty()) {
                number++;
                String[] parts = row.split("->");
                String due = parts.length > 1 ? parts[1].trim() : "done";
                same(title + ", call " + number + ", " + parts[0].trim(), Answers.of(governor, parts[0]), due);
            }
        }
    }

    void same(String what, Object got, Object due) {
        checked++;
        if (!got.equals(due)) {
            wrong++;
            System.out.println(name + ": " + what + " answered " + got + ", due is " + due);
        }
    }

    void end() {
        System.out.println(name + ": " + checked + " answers, " + wrong + " of them wrong");
        if (wrong != 0 || checked == 0) {
            System.exit(1);
        }
    }
}
