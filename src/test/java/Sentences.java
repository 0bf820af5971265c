import java.util.ArrayList;
import java.util.List;

/**
 * Runs that belong to sentences of the document. Each run quotes words of the sentence that it is
 * for; at the end every sentence of the sections that were begun must have had a run of its own.
 */
final class Sentences {
    private final Runs runs;
    private final List<String> withoutRun = new ArrayList<>();
    private String heading = "";
    private List<String> sentences = List.of();

    Sentences(String name) {
        runs = new Runs(name);
    }

    void section(String begun) {
        heading = begun;
        sentences = Document.sentences(begun);
        withoutRun.addAll(sentences);
    }

    void holds(String words, String what, String... scripts) {
        int saying = 0;
        for (String sentence : sentences) {
            if (sentence.contains(words)) {
                saying++;
                withoutRun.remove(sentence);
            }
        }
        runs.same("sentences of " + heading + " that say \"" + words + "\"", saying, 1);
        runs.run(heading + ", \"" + words + "\", " + what, scripts);
    }

    void end() {
        runs.same("sentences without a run", withoutRun, List.of());
        runs.end();
    }
}
