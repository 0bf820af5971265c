/**
 * Runs of calls on new objects, of HeatGovernor and, so that no answer is due by mistake, of
 * PlainGovernor. A line is a call and, behind "->", its answer; a line without one is
 * a void call that must be done. What stands behind "#" is a remark.
 */
final class Runs {
    static final int CORES = 4;
    static final int NODES = 6;

    /** Each node with an edge of its own to the air. */
    static final String STAR = each(NODES, "edge % 6 1 1");

    private final String name;
    private int checked = 0;
    private int wrong = 0;

    Runs(String name) {
        this.name = name;
    }

    /** A row for each of so many nodes or cores, from 0 on, each in the place of "%". */
    static String each(int count, String row) {
        StringBuilder rows = new StringBuilder();
        for (int i = 0; i < count; i++) {
            rows.append(row.replace("%", Integer.toString(i))).append('\n');
        }
        return rows.toString();
    }

    /** The calls, each a row or several, as such that find no node, core, step or what. */
    static String index(String... calls) {
        return thrown("IndexOutOfBoundsException", calls);
    }

    /** The calls, each a row or several, as such of which a number is not within what is said. */
    static String argument(String... calls) {
        return thrown("IllegalArgumentException", calls);
    }

    /** The calls, each a row or several, as such that come too early or too late. */
    static String state(String... calls) {
        return thrown("IllegalStateException", calls);
    }

    private static String thrown(String exception, String... calls) {
        StringBuilder rows = new StringBuilder();
        for (String call : String.join("\n", calls).split("\n+")) {
            rows.append(call).append(" -> throws.").append(exception).append('\n');
        }
        return rows.toString();
    }

    void run(String title, String... scripts) {
        runOn(new HeatGovernor(), title, scripts);
        runOn(new PlainGovernor(), title + " (by PlainGovernor)", scripts);
    }

    private void runOn(Object governor, String title, String... scripts) {
        int number = 0;
        for (String line : String.join("\n", scripts).split("\n")) {
            String row = line.replaceAll("#.*", "").trim();
            if (!row.isEmpty()) {
                number++;
                String[] parts = row.split("->");
                String due = parts.length > 1 ? parts[1].trim() : "done";
                same(title + ", call " + number + ", " + parts[0].trim(), Answers.of(governor, parts[0]), due);
            }
        }
    }

    void same(String what, Object got, Object due) {
        checked++;
        if (!got.equals(due)) {
            wrong++;
            System.out.println(name + ": " + what + " answered " + got + ", due is " + due);
        }
    }

    void end() {
        System.out.println(name + ": " + checked + " answers, " + wrong + " of them wrong");
        if (wrong != 0 || checked == 0) {
            System.exit(1);
        }
    }
}
