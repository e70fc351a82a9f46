import java.io.IOException;
import java.nio.file.Files;
import java.nio.file.Path;

/** The document's parts, each as one line of text. */
final class Doc {
    private static final Path PLACE = Path.of("../shared/DOC.md");

    private final String text;

    Doc() throws IOException {
        text = Files.exists(PLACE) ? Files.readString(PLACE) : null;
    }

    boolean isThere() {
        return text != null;
    }

    private String between(String from, String to) {
        int start = text.indexOf(from);
        int end = start < 0 ? -1 : text.indexOf(to, start + from.length());
        return start < 0 ? "" : text.substring(start + from.length(), end < 0 ? text.length() : end);
    }

    private static String oneLine(String part) {
        return part.replaceAll("(?m)^```.*$", " ").replaceAll("\\s+", " ").trim();
    }

    String face() {
        return between("\n## The public face\n", "\n## ");
    }

    /** What stands behind the subject of the document. */
    String use() {
        return oneLine("An object is used" + between("\nAn object is used", "\n## "));
    }

    /** 0 is what stands ahead of the first numbered part. */
    String terms(int n) {
        String terms = between("\n## Terms\n", "\n## ");
        String[] parts = terms.split("==== [0-9]\\. ");
        return n < parts.length ? oneLine(parts[n]) : "";
    }

    /** Without the heading and the method's signature. */
    String promise(int n) {
        return oneLine(between("\n## Promise " + n + ":", "\n## ").replaceFirst("(?s)^.*?`[^`]*`:", ""));
    }
}
