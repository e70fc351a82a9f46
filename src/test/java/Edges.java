import java.io.IOException;
import java.util.function.Consumer;

/**
 * Runs the tests of the document's sentences one by one, in the document's order, and sees to it that no sentence
 * is left out: each is quoted, word for word, either with a test of its own or as one that names no boundary.
 */
final class Edges {
    private final Check check = new Check();
    private final Doc doc;
    private String part = "";
    private String left = "";

    Edges() throws IOException {
        doc = new Doc();
        if (!doc.isThere()) {
            System.out.println("the document is not there: its sentences are tested, but not looked for in it");
        }
    }

    void use() {
        begin("use", doc.isThere() ? doc.use() : "");
    }

    void terms(int n) {
        begin("terms " + n, doc.isThere() ? doc.terms(n) : "");
    }

    void promise(int n) {
        begin("promise " + n, doc.isThere() ? doc.promise(n) : "");
    }

    private void begin(String name, String text) {
        endPart();
        part = name;
        left = text;
        if (doc.isThere()) {
            check.no(name + " is missing in the document", text.isEmpty());
        }
    }

    private void endPart() {
        check.about("");
        check.yes(part + ": no test for \"" + left + "\"", left.isBlank());
        left = "";
    }

    private void take(String quote) {
        check.about("");
        if (doc.isThere()) {
            boolean isNext = left.stripLeading().startsWith(quote);
            check.yes(part + ": the document doesn't go on with \"" + quote + "\" but with \"" + left + "\"", isNext);
            left = isNext ? left.stripLeading().substring(quote.length()) : left;
        }
    }

    /** A sentence, or a part of one, that names a boundary, and its test. */
    void edge(String quote, Consumer<Check> test) {
        take(quote);
        int before = check.made();
        check.about(part + ", \"" + quote + "\"");
        try {
            test.accept(check);
        } catch (RuntimeException | StackOverflowError e) {
            // So that the other sentences are tested none the less.
            check.no("it threw " + e, true);
        }
        check.no("it has no test", check.made() == before);
    }

    /** One that names no boundary. */
    void plain(String quote) {
        take(quote);
    }

    void close() {
        endPart();
        check.close();
    }
}
