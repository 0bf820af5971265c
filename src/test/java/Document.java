import java.io.IOException;
import java.io.UncheckedIOException;
import java.nio.file.Files;
import java.nio.file.Path;
import java.util.List;

/** The document's words, so that a test can name the sentence that it holds the class to. */
final class Document {
    private static final Path PATH = Path.of("../shared/DOC.md");

    private Document() {
    }

    /** The sentences under "Terms", or under "Promise 7" and the like without the call's head. */
    static List<String> sentences(String heading) {
        String text = section(heading).replaceFirst("^`[^`]*`: ", "");
        // A range such as 0 .. 3 has dots, too, but they end no sentence.
        return List.of(text.split("(?<=[^. ][.])\\s+|(?<=[^. ][.][)])\\s+"));
    }

    private static String section(String heading) {
        try {
            for (String part : Files.readString(PATH).split("(?m)^## ")) {
                String[] headAndText = part.split("\n", 2);
                if (headAndText[0].split(":")[0].trim().equals(heading)) {
                    return headAndText[1].replaceAll("\\s+", " ").trim();
                }
            }
        } catch (IOException e) {
            throw new UncheckedIOException(e);
        }
        throw new AssertionError("the document has no " + heading);
    }
}
