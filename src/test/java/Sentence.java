import java.io.IOException;
import java.io.UncheckedIOException;
import java.nio.file.Files;
import java.nio.file.Path;

/**
 * Tests that are named by sentences of the document: whoever looks for the test of a sentence finds
 * it by the sentence's own words, and a name that the document does not have is wrong.
 */
final class Sentence {
    private static final Path DOCUMENT = Path.of("..", "shared", "DOC.md");

    private static String section = "";

    private Sentence() {
    }

    /** The tests that follow are of sentences of the section with this heading. */
    static void in(String heading) {
        String document = document();
        String line = "## " + heading + " ";
        int from = document.indexOf(line);
        Due.isTrue("the document has the heading " + heading, from >= 0);
        int begin = from < 0 ? document.length() : from + line.length();
        int end = document.indexOf(" ## ", begin - 1);
        section = document.substring(begin, end < 0 ? document.length() : end);
    }

    static void says(String words, Due.Call test) {
        Due.underName(words, () -> {
            Due.isTrue("the document says this", section.contains(words));
            test.make();
        });
    }

    private static String document() {
        try {
            return Files.readString(DOCUMENT).replaceAll("\\s+", " ") + " ";
        } catch (IOException e) {
            throw new UncheckedIOException(e);
        }
    }
}
