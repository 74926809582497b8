import java.io.IOException;
import java.nio.file.Files;
import java.nio.file.Path;
import java.util.TreeSet;

/** The document, so that a test can tell the sentence that it is of, and no sentence that isn't there. */
final class Doc {
    static final int TERMS = 0;
    private static final int PROMISES = 44;
    private static final Path PLACE = Path.of("../shared/DOC.md");

    private static final TreeSet<Integer> told = new TreeSet<>();
    private static String text;

    private Doc() {
    }

    /** Whether a sentence stands under the head of a promise, or ahead of all promises (TERMS). */
    static boolean has(int promise, String sentence) throws IOException {
        if (text == null) {
            text = read();
        }
        told.add(promise);
        return text.isEmpty() || part(promise).contains(sentence);
    }

    /** The calls are tested without the document, too. */
    private static String read() throws IOException {
        if (Files.exists(PLACE)) {
            return Files.readString(PLACE).replaceAll("\\s+", " ");
        }
        System.out.println(PLACE + " isn't there: no sentence is looked for");
        return "";
    }

    private static String part(int promise) {
        int begin = promise == TERMS ? 0 : text.indexOf(head(promise));
        int end = text.indexOf(promise == PROMISES ? "## Not promised" : head(promise + 1));
        return begin < 0 || end < begin ? "" : text.substring(begin, end);
    }

    private static String head(int promise) {
        return "## Promise " + promise + ": ";
    }

    /** How many of the terms and the promises a test has told a sentence of. */
    static int toldParts() {
        return told.size();
    }

    static int parts() {
        return PROMISES + 1;
    }
}
