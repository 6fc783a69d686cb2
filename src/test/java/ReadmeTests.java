import java.io.IOException;
import java.io.UncheckedIOException;
import java.net.URL;
import java.net.URLClassLoader;
import java.nio.file.Files;
import java.nio.file.Path;
import java.util.ArrayList;
import java.util.List;
import java.util.TreeSet;
import java.util.regex.Matcher;
import java.util.regex.Pattern;
import java.util.stream.Stream;
import javax.tools.JavaCompiler;
import javax.tools.ToolProvider;

/** What README.md says: its example compiles and answers so, its command runs every test. */
public final class ReadmeTests {
    private static final Path README = Path.of("README.md");
    private static final Path SCRIPT = Path.of(".ci/run");
    private static final Path TESTS = Path.of("src/test/java");

    /** A call as a statement, perhaps kept under a name, and its answer in the comment. */
    private static final Pattern LINE = Pattern.compile(
            "(?:(?:int|long|boolean|double|float) (\\w+) = )?(festival\\.\\w+\\(.*\\)); +"
            + "// ([^ :]+)(?:: .*)?");

    private ReadmeTests() {
    }

    public static void main(String[] args) throws Exception {
        String page = Files.readString(README);
        example(block(page, "java"));
        command(block(page, "bash").trim());
        table(page);
        Check.end("ReadmeTests");
    }

    private static String block(String page, String language) {
        String begin = "```" + language + "\n";
        int from = page.indexOf(begin);
        int to = page.indexOf("```", from + begin.length());
        Check.same("README.md has a block of " + language, from >= 0 && to >= 0, true);
        Check.same("README.md has one block of " + language, page.lastIndexOf(begin), from);
        return from < 0 || to < 0 ? "" : page.substring(from + begin.length(), to);
    }

    // ---- the example

    private static void example(String text) throws Exception {
        List<String> calls = new ArrayList<>();
        List<String> due = new ArrayList<>();
        String asked = asked(text, calls, due);
        Check.same("the example has calls", calls.size() > 3, true);
        List<?> got = answers(text, asked);
        Check.same("as many answers as calls", got.size(), calls.size());
        for (int i = 0; i < calls.size() && i < got.size(); i++) {
            Check.same("README.md: " + calls.get(i), got.get(i), due.get(i));
        }
    }

    /** The example with each answer kept; the calls and the answers in the comments are listed. */
    private static String asked(String text, List<String> calls, List<String> due) {
        StringBuilder asked = new StringBuilder();
        for (String line : text.split("\n")) {
            Matcher match = LINE.matcher(line);
            if (!match.matches()) {
                Check.same("a line without an answer", line,
                        "Festivalgrounds festival = new Festivalgrounds();");
                asked.append(line).append('\n');
                continue;
            }
            String name = match.group(1);
            asked.append(name == null ? "" : line + "\n");
            asked.append("answers.add(").append(name == null ? match.group(2) : name);
            asked.append(");\n");
            calls.add(match.group(2));
            due.add(match.group(3));
        }
        return asked.toString();
    }

    /** Compiles the example as it stands beside the one whose answers are kept, and runs this. */
    private static List<?> answers(String text, String asked) throws Exception {
        Path into = Files.createTempDirectory("readme");
        Path file = into.resolve("ReadmeExample.java");
        Files.writeString(file, "import java.util.ArrayList;\nimport java.util.List;\n\n"
                + "public final class ReadmeExample {\n"
                + "public static void example() {\n" + text + "}\n"
                + "public static List<Object> answers() {\n"
                + "List<Object> answers = new ArrayList<>();\n" + asked + "return answers;\n}\n}\n");
        JavaCompiler compiler = ToolProvider.getSystemJavaCompiler();
        try {
            int failed = compiler == null ? 1 : compiler.run(null, null, null, "-d",
                    into.toString(), "-cp", System.getProperty("java.class.path"),
                    file.toString());
            Check.same("the example compiles", failed, 0);
            return failed == 0 ? run(into) : List.of();
        } finally {
            remove(into);
        }
    }

    private static List<?> run(Path from) throws Exception {
        URL[] places = {from.toUri().toURL()};
        try (URLClassLoader loader = new URLClassLoader(places)) {
            Class<?> example = loader.loadClass("ReadmeExample");
            example.getMethod("example").invoke(null);
            return (List<?>) example.getMethod("answers").invoke(null);
        }
    }

    private static void remove(Path directory) throws IOException {
        for (String name : names(directory)) {
            Files.delete(directory.resolve(name));
        }
        Files.delete(directory);
    }

    // ---- the command and the table

    private static void command(String command) throws IOException {
        Check.same("the command", command, "bash " + SCRIPT);
        Check.same("the script can be run", Files.isExecutable(SCRIPT), true);
        String script = Files.readString(SCRIPT);
        Check.same("it runs the tests of the project",
                script.contains("for file in src/test/java/*Tests.java; do"), true);
        Check.same("it runs the tests that are shared", script.contains("shared=../shared/tests")
                && script.contains("for file in \"$shared\"/*.java; do"), true);
    }

    /** What can be started is a test that the script runs and that the table names. */
    private static void table(String page) throws IOException {
        TreeSet<String> tests = new TreeSet<>();
        for (String name : names(TESTS)) {
            Check.same(name + " is a file of Java", name.endsWith(".java"), true);
            if (Files.readString(TESTS.resolve(name)).contains("public static void main(")) {
                tests.add(name.replace(".java", ""));
                Check.same(name + " is run by the script", name.endsWith("Tests.java"), true);
            }
        }
        List<String> rows = new ArrayList<>();
        Matcher row = Pattern.compile("(?m)^\\| `(\\w+)` \\|").matcher(page);
        while (row.find()) {
            rows.add(row.group(1));
        }
        Check.same("the tests of the table", new TreeSet<>(rows), tests);
        Check.same("each test is there once", rows.size(), tests.size());
    }

    private static List<String> names(Path directory) {
        try (Stream<Path> files = Files.list(directory)) {
            List<String> names = new ArrayList<>();
            files.forEach(file -> names.add(file.getFileName().toString()));
            return names;
        } catch (IOException e) {
            throw new UncheckedIOException(e);
        }
    }
}
