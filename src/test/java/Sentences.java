import java.io.IOException;
import java.io.UncheckedIOException;
import java.nio.file.Files;
import java.nio.file.Path;

/**
 * One section of the document and the tests of its sentences. Each test quotes the piece of the
 * text that it tests; a piece that stands in no quote is a sentence without a test, and a fault.
 */
final class Sentences {
    private static final Path DOCUMENT = Path.of("../shared/DOC.md");

    private final String name;
    private final String text;
    private final boolean[] isQuoted;

    private Sentences(String name, String text) {
        this.name = name;
        this.text = text.replace("```text", " ").replace("```", " ").replaceAll("\\s+", " ").strip();
        this.isQuoted = new boolean[this.text.length()];
    }

    static Sentences ofPromise(int number) {
        String document = document();
        int heading = document.indexOf("\n## Promise " + number + ": ");
        // behind the heading a promise tells the call and a colon
        int from = heading < 0 ? -1 : document.indexOf("`: ", heading);
        int to = heading < 0 ? -1 : document.indexOf("\n## ", heading + 1);
        Due.holds("the document has promise " + number, from >= 0 && to > from);
        return new Sentences("promise " + number, document.substring(from + 3, to));
    }

    /** The document from behind a text on up to ahead of another one. */
    static Sentences between(String ahead, String behind) {
        String document = document();
        int from = document.indexOf(ahead);
        int to = document.indexOf(behind, from + 1);
        Due.holds("the document has " + ahead + " ahead of " + behind, from >= 0 && to > from);
        return new Sentences(ahead.strip(), document.substring(from + ahead.length(), to));
    }

    private static String document() {
        try {
            return Files.readString(DOCUMENT);
        } catch (IOException unread) {
            throw new UncheckedIOException(unread);
        }
    }

    /** A test of its own for a piece of the section that no test has quoted yet. */
    Sentences test(String quote, Runnable test) {
        Due.within("");
        Due.holds(name + " has, not yet tested: " + quote, mark(quote));
        Due.within(name + ", \"" + quote + "\": ");
        int before = Due.checksMade();
        test.run();
        Due.holds("it looks at an answer", Due.checksMade() > before);
        Due.within("");
        return this;
    }

    Sentences test(String quote, String calls) {
        return test(quote, () -> Run.of(calls));
    }

    private boolean mark(String quote) {
        for (int at = text.indexOf(quote); at >= 0; at = text.indexOf(quote, at + 1)) {
            boolean isNew = false;
            for (int p = at; p < at + quote.length(); p++) {
                isNew |= !isQuoted[p];
                isQuoted[p] = true;
            }
            if (isNew) {
                return true;
            }
        }
        return false;
    }

    /** Every word of the section has to stand in a quote. */
    void end() {
        StringBuilder rest = new StringBuilder();
        for (int p = 0; p < text.length(); p++) {
            rest.append(isQuoted[p] ? '|' : text.charAt(p));
        }
        String without = rest.toString().replaceAll("\\|+", "|").strip();
        Due.holds(name + " has no sentence without a test: " + without,
            without.chars().noneMatch(Character::isLetterOrDigit));
    }
}
