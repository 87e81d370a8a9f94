import java.io.IOException;
import java.lang.reflect.Method;
import java.lang.reflect.Modifier;
import java.net.URL;
import java.net.URLClassLoader;
import java.nio.file.Files;
import java.nio.file.Path;
import java.util.ArrayList;
import java.util.Comparator;
import java.util.List;
import java.util.regex.Matcher;
import java.util.regex.Pattern;
import java.util.stream.Stream;
import javax.tools.JavaCompiler;
import javax.tools.ToolProvider;

/** README.md: its example compiles and answers as it tells; the methods and the tests that it names are all there are. */
public final class ReadmeTests {
    private static final Pattern TOLD = Pattern.compile("\\s*(?:int|boolean) (\\w+) = .*; +// (-?\\d+|true|false)(?:: .*)?");

    private ReadmeTests() {
    }

    public static void main(String[] args) throws Exception {
        List<String> page = Files.readAllLines(Path.of("README.md"));
        Path out = Files.createTempDirectory("readme");
        try {
            example(page, out);
        } finally {
            remove(out);
        }
        names(String.join("\n", page));
        Bench.finish("ReadmeTests");
    }

    /** The example calls these, and it is loaded apart: they are public for that. */
    public static void due(String name, int got, int want) {
        Bench.due("README.md's " + name, got, want);
    }

    public static void due(String name, boolean got, boolean want) {
        Bench.due("README.md's " + name, got, want);
    }

    private static void example(List<String> page, Path out) throws Exception {
        List<String> plain = new ArrayList<>();
        List<String> asked = new ArrayList<>();
        int begin = page.indexOf("```java");
        int answers = 0;
        for (int i = begin + 1; begin >= 0 && !page.get(i).equals("```"); i++) {
            String line = page.get(i);
            plain.add(line);
            asked.add(line);
            Matcher told = TOLD.matcher(line);
            if (told.matches()) {
                answers++;
                asked.add("ReadmeTests.due(\"" + told.group(1) + "\", " + told.group(1) + ", " + told.group(2) + ");");
            }
            Bench.due("an answer is told: " + line, told.matches(), line.contains(";") && line.contains("//"));
        }
        Bench.due("answers told: " + answers, answers > 0, true);
        Bench.due("the example compiles", compiles(plain, out), true);
        if (compiles(asked, out)) {
            runExample(out);
        }
    }

    private static boolean compiles(List<String> source, Path out) throws IOException {
        Path file = out.resolve("Example.java");
        Files.write(file, source);
        JavaCompiler javac = ToolProvider.getSystemJavaCompiler();
        return javac != null && javac.run(null, null, null, "-cp", System.getProperty("java.class.path"), "-d", out.toString(), file.toString()) == 0;
    }

    private static void runExample(Path out) throws Exception {
        try (URLClassLoader loader = new URLClassLoader(new URL[] {out.toUri().toURL()}, ReadmeTests.class.getClassLoader())) {
            loader.loadClass("Example").getMethod("main", String[].class).invoke(null, (Object) new String[0]);
        }
    }

    private static void names(String page) throws IOException {
        for (Method m : CodePlaces.class.getDeclaredMethods()) {
            if (Modifier.isPublic(m.getModifiers())) {
                Bench.due("README.md names " + m.getName(), page.contains("`" + m.getName() + "`"), true);
            }
        }
        try (Stream<Path> tests = Files.list(Path.of("src/test/java"))) {
            for (Path test : tests.sorted().toList()) {
                Bench.due("README.md names " + test, page.contains(test.getFileName().toString()), true);
            }
        }
        Matcher told = Pattern.compile("src/\\w+/java/\\w+\\.java").matcher(page);
        while (told.find()) {
            Bench.due("there is a " + told.group(), Files.exists(Path.of(told.group())), true);
        }
    }

    private static void remove(Path directory) throws IOException {
        try (Stream<Path> all = Files.walk(directory)) {
            for (Path path : all.sorted(Comparator.reverseOrder()).toList()) {
                Files.delete(path);
            }
        }
    }
}
