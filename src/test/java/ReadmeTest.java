import java.io.IOException;
import java.nio.file.Files;
import java.nio.file.Path;
import java.util.ArrayList;
import java.util.List;

/** README.md as it stands: its example is run here, and it names every file of the tests. */
public final class ReadmeTest {
    private static final Runs RUNS = new Runs("ReadmeTest");
    private static final Path README = Path.of("README.md");
    private static final Path TESTS = Path.of("src/test/java");
    private static final List<String> ANSWERS = new ArrayList<>();

    private ReadmeTest() {
    }

    public static void main(String[] args) throws IOException {
        List<String> told = between(README, "```java", "```");
        RUNS.same("the example", told, between(TESTS.resolve("ReadmeTest.java"), "// From here", "// To here"));
        example();
        RUNS.same("the example's answers", ANSWERS, answersTold(told));
        filesNamed();
        RUNS.end();
    }

    /** Line by line what README.md has, but for the lines that keep the answers. */
    private static void example() {
        // From here
        HeatGovernor governor = new HeatGovernor();

        // Cores 0 .. 3 are joined with the spreader 4, it with the board 5, and the board with the air, 6.
        for (int core = 0; core < 4; core++) {
            governor.capacity(core, 400, 500);
            governor.edge(core, 4, 40, 60);
        }
        governor.capacity(4, 2000, 2500);
        governor.capacity(5, 8000, 10000);
        governor.edge(4, 5, 100, 200);
        governor.edge(5, 6, 150, 200);
        governor.power(3, 600000);            // the greatest step first: powers never fall with the step
        governor.power(2, 400000);
        governor.power(1, 200000);

        if (governor.seal()) {                // false: not joined, not steady, or too hot already
            governor.ask(0, 3, 5);            // core 0 wishes for step 3, with rank 5
            governor.draw(0, 600000);         // what it truly draws, if its step lets it
            int less = governor.period();     // 0: the cores that got less than they wished for, as bits
            ANSWERS.add("less " + less);
            int step = governor.core(0, 0);   // 3: what core 0 got
            ANSWERS.add("step " + step);
            int busy = governor.tick(10);     // 8: the steps hold for eight ticks, then they are 0
            ANSWERS.add("busy " + busy);
            int bound = governor.node(0, 1);  // 12320: how hot core 0 is at most; its limit is 20000
            ANSWERS.add("bound " + bound);
            boolean safe = governor.ahead(3); // true: core 0 could have step 3 once more
            ANSWERS.add("safe " + safe);
        }
        governor.open();                      // as at first
        // To here
    }

    /** The lines between two others, without their indents, empty ones and those that keep answers. */
    private static List<String> between(Path file, String first, String last) throws IOException {
        List<String> lines = new ArrayList<>();
        for (String line : Files.readAllLines(file)) {
            lines.add(line.trim());
        }
        List<String> behind = lines.subList(lines.indexOf(first) + 1, lines.size());
        List<String> kept = new ArrayList<>(behind.subList(0, behind.indexOf(last)));
        kept.removeIf(line -> line.isEmpty() || line.startsWith("ANSWERS."));
        return kept;
    }

    /** Of a line such as "int less = governor.period(); // 0: ..." its "less 0". */
    private static List<String> answersTold(List<String> lines) {
        List<String> told = new ArrayList<>();
        for (String line : lines) {
            if (line.matches("(int|boolean) .*")) {
                told.add(line.replaceFirst("^\\w+ (\\w+) = .*// (\\w+): .*$", "$1 $2"));
            }
        }
        return told;
    }

    private static void filesNamed() throws IOException {
        String readme = Files.readString(README);
        try (var files = Files.newDirectoryStream(TESTS, "*.java")) {
            for (Path file : files) {
                String name = file.getFileName().toString().replace(".java", "");
                RUNS.same("named: " + name, readme.contains("`" + name + "`"), true);
            }
        }
    }
}
