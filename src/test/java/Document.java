import java.io.IOException;
import java.nio.file.Files;
import java.nio.file.Path;
import java.util.ArrayList;
import java.util.HashSet;
import java.util.List;
import java.util.Set;

/**
 * A part of the document. A test tells each sentence that it is about, so that a sentence that the document
 * does not have, or that no test tells, is found.
 */
final class Document {
    private static final Path FILE = Path.of("../shared/DOC.md");
    private static final Set<Integer> TOLD = new HashSet<>();
    private final String whole;
    private String left;

    private Document(String text) {
        whole = text.replaceAll("\\s+", " ").trim();
        left = whole;
    }

    /** From one mark on, up to another one. */
    static Document part(String from, String until) {
        String text = String.join("\n", lines());
        int start = text.indexOf(from);
        return new Document(text.substring(start, text.indexOf(until, start)));
    }

    /** What a promise says, but for its signature, its parameters and what it throws. */
    static Document promise(int number) {
        StringBuilder text = new StringBuilder();
        for (String line : promiseLines(number)) {
            if (!line.startsWith("## ") && !line.startsWith("- `") && !line.startsWith("Throws `")) {
                text.append(line.replaceAll("^`[^`]*`: ", "")).append('\n');
            }
        }
        return new Document(text.toString());
    }

    /** These sentences are all that a promise says. */
    static void about(int number, String... sentences) {
        Document promise = promise(number);
        for (String sentence : sentences) {
            promise.says(sentence);
        }
        promise.isTold();
        TOLD.add(number);
    }

    static void areTold(int first, int last) {
        for (int number = first; number <= last; number++) {
            Check.due("a test is about the promise " + number, true, TOLD.contains(number));
        }
    }

    static int promises() {
        int count = 0;
        for (String line : lines()) {
            count += line.startsWith("## Promise ") ? 1 : 0;
        }
        return count;
    }

    /** The name that a promise has in its heading. */
    static String nameOf(int number) {
        return promiseLines(number).get(0).replaceAll(".*: ", "");
    }

    /** The lines of a promise that begin so. */
    static List<String> rows(int number, String beginning) {
        List<String> rows = new ArrayList<>();
        for (String line : promiseLines(number)) {
            if (line.startsWith(beginning)) {
                rows.add(line);
            }
        }
        return rows;
    }

    private static List<String> promiseLines(int number) {
        List<String> found = new ArrayList<>();
        boolean inside = false;
        for (String line : lines()) {
            if (line.startsWith("## ")) {
                inside = line.startsWith("## Promise " + number + ":");
            }
            if (inside) {
                found.add(line);
            }
        }
        return found;
    }

    private static List<String> lines() {
        try {
            return Files.readAllLines(FILE);
        } catch (IOException e) {
            throw new IllegalStateException(e);
        }
    }

    void says(String sentence) {
        Check.due("the document says: " + sentence, true, whole.contains(sentence));
        left = left.replace(sentence, "");
    }

    void isTold() {
        Check.due("what no test is about", "", left.trim());
    }
}
