import java.io.IOException;
import java.lang.reflect.Method;
import java.lang.reflect.Modifier;
import java.net.URL;
import java.net.URLClassLoader;
import java.nio.file.Files;
import java.nio.file.Path;
import java.util.ArrayList;
import java.util.HashSet;
import java.util.List;
import java.util.Set;
import java.util.regex.Matcher;
import java.util.regex.Pattern;
import javax.tools.JavaCompiler;
import javax.tools.ToolProvider;

/**
 * Compiles and runs the example of README.md as it stands there, and holds each answer against the one that it shows.
 * Run in the project's folder.
 */
public final class ReadmeTest {
    private static final Due DUE = new Due("ReadmeTest");
    private static final Path README = Path.of("README.md");
    private static final Path TESTS = Path.of("src/test/java");
    /** A line that shows a call and, behind it, the answer. */
    private static final Pattern SHOWN = Pattern.compile("(bill\\.(\\w+)\\(.*\\)); +// (-?\\d+)(:.*)?");
    private static final int CALLS_OF_AN_OBJECT = 512;

    /** A call as the page shows it. */
    private record Shown(String call, String name, long answer) {
    }

    public static void main(String[] args) throws IOException, ReflectiveOperationException {
        String page = Files.readString(README);
        List<String> lines = exampleOf(page);
        List<Shown> shown = shownIn(lines);
        long[] answers = answersOf(lines);
        DUE.is("calls that are shown", answers.length, shown.size());
        DUE.holds("an object is used for 512 calls at most", shown.size() < CALLS_OF_AN_OBJECT);
        for (int call = 0; call < answers.length && call < shown.size(); call++) {
            DUE.is(shown.get(call).call, answers[call], shown.get(call).answer);
        }
        eachCallIsShown(shown);
        eachTestIsNamed(page);
        DUE.holds("how to run the tests is told", page.contains("\n    .ci/run\n"));
        DUE.end();
    }

    /** The lines of all pieces of Java on the page: they are one run. */
    private static List<String> exampleOf(String page) {
        List<String> lines = new ArrayList<>();
        boolean inside = false;
        for (String line : page.lines().toList()) {
            if (line.startsWith("```")) {
                inside = line.equals("```java");
            } else if (inside) {
                lines.add(line);
            }
        }
        return lines;
    }

    private static List<Shown> shownIn(List<String> lines) {
        List<Shown> all = new ArrayList<>();
        for (String line : lines) {
            Matcher shown = SHOWN.matcher(line);
            if (shown.matches()) {
                all.add(new Shown(shown.group(1), shown.group(2), Long.parseLong(shown.group(3))));
            } else {
                DUE.holds("'" + line + "' shows its answer", !line.startsWith("bill."));
            }
        }
        return all;
    }

    /** What the calls answer that the page shows: each line stays as it is, but for what is done with its answer. */
    private static long[] answersOf(List<String> lines) throws IOException, ReflectiveOperationException {
        StringBuilder source = new StringBuilder("public final class ReadmeExample {\n");
        source.append("public static long[] answers() {\nlong[] all = new long[").append(CALLS_OF_AN_OBJECT);
        source.append("];\nint calls = 0;\n");
        for (String line : lines) {
            source.append(SHOWN.matcher(line).matches() ? "all[calls++] = " : "").append(line).append('\n');
        }
        source.append("return java.util.Arrays.copyOf(all, calls);\n}\n}\n");
        Path folder = Files.createTempDirectory("readme");
        try {
            return compiledAndRun(folder, source.toString());
        } finally {
            Files.deleteIfExists(folder.resolve("ReadmeExample.java"));
            Files.deleteIfExists(folder.resolve("ReadmeExample.class"));
            Files.deleteIfExists(folder);
        }
    }

    private static long[] compiledAndRun(Path folder, String source)
            throws IOException, ReflectiveOperationException {
        Path file = Files.writeString(folder.resolve("ReadmeExample.java"), source);
        JavaCompiler compiler = ToolProvider.getSystemJavaCompiler();
        int failed = compiler.run(null, null, null, "-cp", System.getProperty("java.class.path"), file.toString());
        DUE.is("the example compiles", failed, 0);
        if (failed != 0) {
            return new long[0];
        }
        try (URLClassLoader loader = new URLClassLoader(new URL[] {folder.toUri().toURL()})) {
            return (long[]) loader.loadClass("ReadmeExample").getMethod("answers").invoke(null);
        }
    }

    private static void eachCallIsShown(List<Shown> shown) {
        Set<String> names = new HashSet<>();
        for (Shown each : shown) {
            names.add(each.name);
        }
        for (Method method : MorningBill.class.getDeclaredMethods()) {
            if (Modifier.isPublic(method.getModifiers())) {
                DUE.holds(method.getName() + " is shown", names.contains(method.getName()));
            }
        }
    }

    private static void eachTestIsNamed(String page) throws IOException {
        try (var files = Files.list(TESTS)) {
            for (Path file : files.sorted().toList()) {
                String name = file.getFileName().toString().replace(".java", "");
                DUE.holds(name + " is named", page.contains("`" + name + "`"));
            }
        }
    }
}
