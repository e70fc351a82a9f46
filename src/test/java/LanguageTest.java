import java.io.IOException;
import java.lang.reflect.Field;
import java.lang.reflect.Member;
import java.lang.reflect.Method;
import java.lang.reflect.Modifier;
import java.nio.file.Files;
import java.nio.file.Path;
import java.util.HashSet;
import java.util.List;
import java.util.Set;
import java.util.TreeSet;
import java.util.regex.Matcher;
import java.util.regex.Pattern;

/** What of LANGUAGE.md can be seen by a machine; to be run from the project's own folder. */
public final class LanguageTest {
    private static final Check CHECK = new Check();
    private static final Set<String> FACE = Set.of("notches", "sky", "plot", "set", "feed", "end", "text", "fault",
            "worth", "sell", "promise", "drop", "votes", "holder", "noons", "of", "turned", "best", "fair", "alone",
            "pay", "leave", "quarrel", "fewest", "plan", "boat", "log", "back", "undo", "image", "look");
    private static final int MOST_LINES = 60;

    public static void main(String[] args) throws IOException {
        String source = Files.readString(Path.of("src/main/java/TurnedIsland.java"));
        String code = withoutComments(source);
        words(code);
        library(code);
        methodLengths(code);
        face();
        signatures();
        classes();
        CHECK.close();
    }

    /** Comments and the insides of texts go, the lines stay. */
    private static String withoutComments(String source) {
        Matcher m = Pattern.compile("(?s)/\\*.*?\\*/|//[^\n]*|\"[^\"]*\"|'.'").matcher(source);
        StringBuilder b = new StringBuilder();
        while (m.find()) {
            m.appendReplacement(b, m.group().replaceAll("[^\n]", ""));
        }
        return m.appendTail(b).toString();
    }

    private static void words(String code) {
        for (String word : List.of("throw", "throws", "try", "catch", "synchronized", "assert", "package", "native",
                "volatile", "transient", "strictfp", "protected", "var")) {
            CHECK.no("the word " + word, Pattern.compile("\\b" + word + "\\b").matcher(code).find());
        }
        CHECK.no("a lambda or method reference", code.contains("->") || code.contains("::"));
        CHECK.no("an annotation", code.contains("@"));
        CHECK.no("a static block", Pattern.compile("\\bstatic\\s*\\{").matcher(code).find());
        CHECK.no("an endless loop", Pattern.compile("for\\s*\\(\\s*;\\s*;|while\\s*\\(\\s*true").matcher(code).find());
        CHECK.no("an Exact function", code.contains("Exact("));
        for (int i = 0; i < code.length(); i++) {
            if (code.charAt(i) > 126) {
                CHECK.due("sign at " + i, code.charAt(i), ' ');
            }
        }
    }

    private static void library(String code) {
        Matcher imports = Pattern.compile("import ([^;]*);").matcher(code);
        while (imports.find()) {
            CHECK.yes("import " + imports.group(1), imports.group(1).equals("java.util.Arrays"));
        }
        Set<String> allowed = Set.of("Arrays.fill", "System.arraycopy", "Math.min", "Math.max", "Math.floorMod",
                "Integer.bitCount", "Integer.numberOfTrailingZeros");
        Matcher used = Pattern.compile("\\b(Arrays|System|Math|Integer|Long|String|Character|Object|Thread)\\.\\w+")
                .matcher(code);
        while (used.find()) {
            CHECK.yes(used.group(), allowed.contains(used.group()));
        }
    }

    private static void methodLengths(String code) {
        Matcher head = Pattern.compile("(?m)^( +)[\\w \\[\\]]*\\b(\\w+)\\([^;{]*\\) \\{\n").matcher(code);
        int methods = 0;
        while (head.find()) {
            String name = head.group(2);
            if (Set.of("if", "for", "while", "switch").contains(name)) {
                continue;
            }
            methods++;
            int end = code.indexOf("\n" + head.group(1) + "}", head.end());
            long lines = code.substring(head.start(), end).lines().count() + 1;
            CHECK.yes(name + " has " + lines + " lines", lines <= MOST_LINES);
        }
        CHECK.yes("methods were seen", methods > FACE.size());
    }

    private static void face() {
        Class<?> c = TurnedIsland.class;
        CHECK.yes("public and final", Modifier.isPublic(c.getModifiers()) && Modifier.isFinal(c.getModifiers()));
        Set<String> seen = new TreeSet<>();
        for (Method m : c.getDeclaredMethods()) {
            boolean isPublic = Modifier.isPublic(m.getModifiers());
            CHECK.yes(m.getName() + " is public or private", isPublic || Modifier.isPrivate(m.getModifiers()));
            CHECK.due(m.getName() + " is of the face", FACE.contains(m.getName()), isPublic);
            CHECK.no(m.getName() + " is there twice", isPublic && !seen.add(m.getName()));
        }
        CHECK.due("methods of the face", seen.size(), FACE.size());
        for (Field f : c.getDeclaredFields()) {
            CHECK.due(f.getName(), Modifier.isPublic(f.getModifiers()), f.getName().equals("NONE"));
            CHECK.due(f.getName(), Modifier.isPrivate(f.getModifiers()), !f.getName().equals("NONE"));
        }
        CHECK.due("constructors", c.getConstructors().length, 1);
        CHECK.due("constructors of any kind", c.getDeclaredConstructors().length, 1);
    }

    /** The document's face, line by line, beside what the class has. */
    private static void signatures() throws IOException {
        Set<String> has = new TreeSet<>();
        for (Method m : TurnedIsland.class.getDeclaredMethods()) {
            if (Modifier.isPublic(m.getModifiers())) {
                StringBuilder b = new StringBuilder(m.getReturnType() + " " + m.getName());
                for (Class<?> type : m.getParameterTypes()) {
                    b.append(' ').append(type);
                }
                has.add(b.toString());
            }
        }
        Doc doc = new Doc();
        if (!doc.isThere()) {
            return;
        }
        int told = 0;
        Matcher m = Pattern.compile("public (\\w+) (\\w+)\\(([^)]*)\\);").matcher(doc.face());
        while (m.find()) {
            told++;
            String given = m.group(3).isEmpty() ? "" : " " + m.group(3).replaceAll(" \\w+(, |$)", " ").trim();
            String due = m.group(1) + " " + m.group(2) + given;
            CHECK.yes("the face has " + due, has.contains(due));
        }
        CHECK.due("methods told in the document", told, has.size());
    }

    private static void classes() {
        Set<Class<?>> all = new HashSet<>(List.of(TurnedIsland.class));
        all.addAll(List.of(TurnedIsland.class.getDeclaredClasses()));
        CHECK.yes(all.size() + " classes", all.size() <= 12);
        for (Class<?> c : all) {
            CHECK.due(c.getName() + " has classes inside", c.getDeclaredClasses().length,
                    c == TurnedIsland.class ? all.size() - 1 : 0);
            CHECK.yes(c.getName() + " is static", c == TurnedIsland.class || Modifier.isStatic(c.getModifiers()));
            members(c);
        }
    }

    private static void members(Class<?> c) {
        int fields = 0;
        for (Field f : c.getDeclaredFields()) {
            if (Modifier.isStatic(f.getModifiers())) {
                CHECK.yes(f + " is final", Modifier.isFinal(f.getModifiers()));
                CHECK.yes(f + " is plain", Set.of(int.class, long.class, boolean.class, char.class, String.class,
                        int[].class, long[].class, char[].class, byte[].class).contains(f.getType()));
            } else {
                fields++;
            }
        }
        CHECK.yes(c.getName() + " has " + fields + " fields", fields <= 20);
        for (Method m : c.getDeclaredMethods()) {
            CHECK.yes(m + " takes seven at most", m.getParameterCount() <= 7);
            CHECK.no(m + " bears a public one's name", c != TurnedIsland.class && FACE.contains(m.getName()));
            CHECK.no(m + " was made by the compiler", ((Member) m).isSynthetic());
        }
    }
}
