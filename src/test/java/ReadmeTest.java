import java.io.IOException;
import java.lang.reflect.Method;
import java.lang.reflect.Modifier;
import java.net.URL;
import java.net.URLClassLoader;
import java.nio.file.Files;
import java.nio.file.Path;
import java.util.ArrayList;
import java.util.List;
import java.util.function.BiConsumer;
import java.util.regex.Matcher;
import java.util.regex.Pattern;
import javax.tools.ToolProvider;

/** What README.md shows is so: its examples are compiled and run; to be run from the project's own folder. */
public final class ReadmeTest {
    private static final Check CHECK = new Check();
    private static final Pattern BLOCK = Pattern.compile("(?ms)^```java\n(.*?)^```$");
    /** A call with the answer that is told behind it. */
    private static final Pattern CALL = Pattern.compile("^(\\w[\\w.]*\\(.*\\)); +// (-?\\d+|true|false)\\b.*$");

    public static void main(String[] args) throws IOException, ReflectiveOperationException {
        String readme = Files.readString(Path.of("README.md"));
        StringBuilder members = new StringBuilder();
        List<String> examples = new ArrayList<>();
        Matcher blocks = BLOCK.matcher(readme);
        while (blocks.find()) {
            if (blocks.group(1).contains("static ")) {
                members.append(blocks.group(1));
            } else {
                examples.add(blocks.group(1));
            }
        }
        everyMethodIsShown(String.join("", examples) + members);
        run(program(members.toString(), examples));
        CHECK.close();
    }

    private static void everyMethodIsShown(String code) {
        for (Method m : TurnedIsland.class.getDeclaredMethods()) {
            if (Modifier.isPublic(m.getModifiers())) {
                CHECK.yes("README.md shows " + m.getName(), code.contains("x." + m.getName() + "("));
            }
        }
    }

    private static String program(String members, List<String> examples) {
        StringBuilder b = new StringBuilder("final class Shown {\n").append(members);
        b.append("static void run(java.util.function.BiConsumer<String, Object[]> check) {\n");
        for (String example : examples) {
            b.append("{\n");
            for (String line : example.split("\n")) {
                b.append(checked(line)).append('\n');
            }
            b.append("}\n");
        }
        return b.append("}\n}\n").toString();
    }

    private static String checked(String line) {
        Matcher m = CALL.matcher(line);
        boolean isCall = m.matches();
        CHECK.yes("README.md tells the answer of " + line, isCall || line.startsWith("TurnedIsland x = "));
        if (!isCall) {
            return line;
        }
        String name = "README.md: " + m.group(1).replace("\"", "'");
        return "check.accept(\"" + name + "\", new Object[] {" + m.group(1) + ", " + m.group(2) + "});";
    }

    private static void run(String program) throws IOException, ReflectiveOperationException {
        Path folder = Files.createTempDirectory("readme");
        Path file = folder.resolve("Shown.java");
        Files.writeString(file, program);
        int made = ToolProvider.getSystemJavaCompiler().run(null, null, null,
                "-cp", System.getProperty("java.class.path"), "-d", folder.toString(), file.toString());
        CHECK.due("compiling what README.md shows", made, 0);
        if (made == 0) {
            runFrom(folder);
        }
        Files.deleteIfExists(folder.resolve("Shown.class"));
        Files.deleteIfExists(file);
        Files.deleteIfExists(folder);
    }

    private static void runFrom(Path folder) throws IOException, ReflectiveOperationException {
        try (URLClassLoader loader = new URLClassLoader(new URL[] {folder.toUri().toURL()})) {
            Method run = loader.loadClass("Shown").getDeclaredMethod("run", BiConsumer.class);
            run.setAccessible(true);
            // Check itself can't be handed over: it is package-visible, and another loader's package is another.
            BiConsumer<String, Object[]> check = ReadmeTest::compare;
            run.invoke(null, check);
        }
    }

    private static void compare(String call, Object[] gotAndWant) {
        String got = gotAndWant[0].toString();
        String want = gotAndWant[1].toString();
        CHECK.yes(call + " is told as " + want + " but is " + got, got.equals(want));
    }
}
