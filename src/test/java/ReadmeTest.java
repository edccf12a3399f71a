import java.io.IOException;
import java.lang.reflect.InvocationTargetException;
import java.lang.reflect.Method;
import java.lang.reflect.Modifier;
import java.net.URL;
import java.net.URLClassLoader;
import java.nio.file.Files;
import java.nio.file.Path;
import java.util.List;
import java.util.Map;
import java.util.TreeMap;
import java.util.stream.Collectors;
import java.util.stream.Stream;
import javax.tools.ToolProvider;

/** README.md: its example compiles and does what it says, and every call and test is named; run from the project's folder. */
public final class ReadmeTest {
    private static final Due DUE = new Due("ReadmeTest");

    public static void main(String[] args) throws IOException, ReflectiveOperationException {
        String page = Files.readString(Path.of("README.md"));
        namesCalls(page);
        namesTests(page);
        example(page.split("```java\n")[1].split("```")[0]);
        DUE.end();
    }

    private static void namesCalls(String page) {
        String table = page.split("\\| call \\|")[1].split("\n\n")[0];
        for (Method m : DrawStreams.class.getDeclaredMethods()) {
            if (Modifier.isPublic(m.getModifiers())) {
                String call = m.getName() + "(" + "[^(),]+, ".repeat(m.getParameterCount());
                String form = call.substring(0, call.length() - 2).replaceFirst("\\(", "\\\\(") + "\\)";
                DUE.holds("the table of calls has " + form, table.lines().anyMatch(row -> row.split("\\|", 3)[1].matches(".*`" + form + "`.*")));
            }
        }
        for (String name : List.of("BAD", "FULL", "NONE")) {
            DUE.holds("README.md tells of " + name, page.contains("`" + name + "` ("));
        }
    }

    private static void namesTests(String page) throws IOException {
        List<String> tests;
        try (Stream<Path> files = Files.list(Path.of("src/test/java"))) {
            tests = files.map(f -> f.getFileName().toString()).filter(f -> f.endsWith("Test.java")).collect(Collectors.toList());
        }
        for (String file : tests) {
            DUE.holds("the table of tests has " + file, page.contains("\n| " + file.replace(".java", "") + " | "));
        }
        String table = page.split("\\| test \\|")[1];
        DUE.is("rows of the table of tests", table.lines().filter(row -> row.matches("\\| \\w+Test \\|.*")).count(), tests.size());
    }

    private static void example(String lines) throws IOException, ReflectiveOperationException {
        Path out = Files.createTempDirectory("readme");
        Path file = out.resolve("Example.java");
        String put = Stream.of("other", "d", "word", "die", "u", "rain", "z", "n", "first", "chosen", "hidden", "i", "dieAgain")
            .map(name -> "all.put(\"" + name + "\", (double) " + name + ");\n").collect(Collectors.joining());
        Files.writeString(file, "public class Example {\npublic static void run(java.util.Map<String, Double> all) {\n" + lines + put + "}\n}\n");
        int code = ToolProvider.getSystemJavaCompiler().run(null, null, null, "-cp", System.getProperty("java.class.path"), "-d", out.toString(), file.toString());
        DUE.is("javac of the example", code, 0);
        if (code == 0) {
            answers(run(out));
        }
        for (String name : List.of("Example.class", "Example.java", "")) {
            Files.deleteIfExists(out.resolve(name));
        }
    }

    private static Map<String, Double> run(Path out) throws IOException, ReflectiveOperationException {
        Map<String, Double> all = new TreeMap<>();
        try (URLClassLoader loader = new URLClassLoader(new URL[] {out.toUri().toURL()})) {
            loader.loadClass("Example").getMethod("run", Map.class).invoke(null, all);
        } catch (InvocationTargetException e) {
            DUE.holds("the example runs to its end, without " + e.getCause(), false);
        }
        return all;
    }

    /** What the example's comments say of its answers. */
    private static void answers(Map<String, Double> all) {
        DUE.is("how many answers", all.size(), 13);
        if (all.size() != 13) {
            return;
        }
        DUE.isReal("other", all.get("other"), 1);
        DUE.isReal("d", all.get("d"), 0);
        DUE.isReal("word", all.get("word"), Model.wordOf(42, 1, 1000));
        DUE.holds("die", all.get("die") >= 1 && all.get("die") <= 6);
        DUE.isReal("dieAgain", all.get("dieAgain"), all.get("die"));
        DUE.holds("u", all.get("u") >= 0 && all.get("u") < 1);
        DUE.holds("rain", all.get("rain") == 0 || all.get("rain") == 1);
        DUE.holds("z", all.get("z") > -10 && all.get("z") < 10);
        DUE.isReal("n", all.get("n"), 52);
        DUE.holds("first", all.get("first") >= 0 && all.get("first") < 52);
        DUE.holds("chosen", all.get("chosen") == 0 || all.get("chosen") == 1);
        DUE.holds("hidden", all.get("hidden") >= 0 && all.get("hidden") < 1000000);
        DUE.isReal("i", all.get("i"), 17);
    }
}
