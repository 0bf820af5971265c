import java.util.ArrayList;
import java.util.List;

/** Calls of each kind with all their right and wrong numbers put together, for the package of Probes. */
final class CallTable {
    /** A call, whether it names something that is not there, whether a number is not within, and when it is for. */
    record Row(String call, boolean noIndex, boolean noNumber, boolean forSealed) {
        /** The exception that is due, or an empty text if the call must be taken. */
        String exception(boolean sealed) {
            if (noIndex) {
                return "throws.IndexOutOfBoundsException";
            }
            if (noNumber) {
                return "throws.IllegalArgumentException";
            }
            return sealed == forSealed ? "" : "throws.IllegalStateException";
        }
    }

    /** One or more arguments that are right or wrong together, each choice behind a comma. */
    private record Slot(boolean index, String right, String wrong) {
    }

    private static final String NO_NODE = "-1,6,7,MIN,MAX";
    private static final String NO_CORE = "-1,4,5,MIN,MAX";
    private static final String NO_WHAT = "-1,4,MIN,MAX";

    private final List<Row> rows = new ArrayList<>();

    private CallTable() {
    }

    static List<Row> rows() {
        CallTable table = new CallTable();
        table.numbers();
        table.truths();
        table.events();
        return table.rows;
    }

    private void numbers() {
        add("capacity", false, index("0,1,2,3,4,5", NO_NODE),
                number("1 1,1 10000,10000 10000,400 500", "0 1,0 0,-1 9,1 10001,10000 10001,10001 10001,2 1,"
                + "10000 9999,MIN 9,9 MAX,MAX MIN"));
        add("edge", false, index("0 1,1 0,0 6,6 0,5 6,6 5", "0 0,5 5,6 6,-1 0,0 -1,-1 -1,7 0,0 7,7 7,6 7,MIN 6,6 MAX"),
                number("0 0,0 1,0 500,500 500", "-1 0,-1 -1,0 501,500 501,501 501,1 0,500 499,MIN 9,9 MAX,MAX MIN"));
        add("limit", false, index("0,1,2,3,4,5", NO_NODE), number("0,1,49999,50000", "-1,50001,MIN,MAX"));
        add("air", false, number("0 0 0,0 0 50000,0 50000 50000,50000 50000 50000,7 8 9",
                "-1 0 0,-1 -1 0,-1 -1 -1,0 0 50001,0 50001 50001,50001 50001 50001,8 7 9,7 9 8,9 9 8,9 8 8,"
                + "MIN 8 9,7 MIN 9,7 8 MIN,MAX 8 9,7 MAX 9,7 8 MAX"));
        add("power", false, index("0", NO_CORE), number("0,900,100000", "-1,100001,MIN,MAX"));
        add("power", false, index("1", NO_CORE), number("900,200000", "899,200001,MIN,MAX"));
        add("power", false, index("2", NO_CORE), number("100000,300000", "99999,300001,MIN,MAX"));
        add("power", false, index("3", NO_CORE), number("200000,1000000", "199999,1000001,-1,MIN,MAX"));
        add("leak", false, number("0,100000", "-1,100001,MIN,MAX"), number("0,100", "-1,101,MIN,MAX"),
                number("0,100", "-1,101,MIN,MAX"), number("0,50000", "-1,50001,MIN,MAX"));
        add("seal", false);
    }

    private void truths() {
        String noPair = "6 6,-1 0,0 -1,-1 -1,7 0,0 7,7 7,6 7,-1 6,MIN 0,0 MAX";
        add("truth", false, index("0 0", noPair), number("400,500", "399,501,0,-1,MIN,MAX"));
        add("truth", false, index("4 4", noPair), number("1000,1200", "999,1201,MIN,MAX"));
        add("truth", false, index("5 5", noPair), number("1100,1300", "1099,1301,MIN,MAX"));
        add("truth", false, index("0 4,4 0", noPair), number("50,60", "49,61,0,MIN,MAX"));
        add("truth", false, index("5 6,6 5", noPair), number("190,210", "189,211,MIN,MAX"));
        add("truth", false, index("0 6,6 0,2 3,2 5", noPair), number("0", "-1,1,500,MIN,MAX"));
    }

    private void events() {
        add("ask", true, index("0,1,2,3", NO_CORE), number("0,3", "-1,4,MIN,MAX"), number("0,9", "-1,10,MIN,MAX"));
        add("period", true);
        add("tick", true, number("1,100", "0,101,-1,MIN,MAX"));
        add("draw", true, index("0,1,2,3", NO_CORE), number("0,1000000", "-1,1000001,MIN,MAX"));
        add("sensor", true, index("0,1,2,3,4,5", NO_NODE), number("-200,0,200", "-201,201,MIN,MAX"),
                number("true,false", ""));
        add("ahead", true, number("0,255", "-1,256,MIN,MAX"));
        add("node", true, index("0,1,2,3,4,5", NO_NODE), index("0,1,2,3", NO_WHAT));
        add("core", true, index("0,1,2,3", NO_CORE), index("0,1,2,3", NO_WHAT));
    }

    private static Slot index(String right, String wrong) {
        return new Slot(true, right, wrong);
    }

    private static Slot number(String right, String wrong) {
        return new Slot(false, right, wrong);
    }

    private void add(String name, boolean forSealed, Slot... slots) {
        List<Row> partly = List.of(new Row(name, false, false, forSealed));
        for (Slot slot : slots) {
            List<Row> longer = new ArrayList<>();
            for (Row row : partly) {
                extend(longer, row, slot, slot.right(), false);
                extend(longer, row, slot, slot.wrong(), true);
            }
            partly = longer;
        }
        rows.addAll(partly);
    }

    private static void extend(List<Row> rows, Row row, Slot slot, String choices, boolean wrong) {
        for (String choice : choices.isEmpty() ? new String[0] : choices.split(",")) {
            String call = row.call() + " " + choice.replace("MIN", "-2147483648").replace("MAX", "2147483647");
            rows.add(new Row(call, row.noIndex() || wrong && slot.index(), row.noNumber() || wrong && !slot.index(),
                    row.forSealed()));
        }
    }
}
