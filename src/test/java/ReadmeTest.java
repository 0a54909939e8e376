import java.io.IOException;
import java.lang.reflect.Method;
import java.lang.reflect.Modifier;
import java.net.URL;
import java.net.URLClassLoader;
import java.nio.file.Files;
import java.nio.file.Path;
import java.util.ArrayList;
import java.util.Comparator;
import java.util.List;
import java.util.Set;
import java.util.TreeSet;
import java.util.regex.Matcher;
import java.util.regex.Pattern;
import java.util.stream.Stream;
import javax.tools.ToolProvider;

/** README.md: its lines of Java are compiled and run as they stand, its answers compared, and its commands run. */
public final class ReadmeTest {
    private static final Path PAGE = Path.of("README.md");
    /** A call, what it answers or throws, and what else is said of it. */
    private static final Pattern ANSWERED =
            Pattern.compile("(luck\\.(\\w+)\\(.*\\)); +// (-?\\d+|NONE|true|false|throws \\w+)(: .*)?");
    private static final Pattern CALL = Pattern.compile("luck\\.(\\w+)\\(");

    public static void main(String[] args) throws IOException, ReflectiveOperationException, InterruptedException {
        Path folder = Files.createTempDirectory("readme");
        try {
            answers(folder);
            allCalls();
            commands();
            namesOfTests();
        } finally {
            clear(folder);
        }
        Check.end();
    }

    private static List<String> blocks(String language) throws IOException {
        List<String> blocks = new ArrayList<>();
        StringBuilder block = null;
        for (String line : Files.readAllLines(PAGE)) {
            if (block == null && line.equals("```" + language)) {
                block = new StringBuilder();
            } else if (block != null && line.equals("```")) {
                blocks.add(block.toString());
                block = null;
            } else if (block != null) {
                block.append(line).append('\n');
            }
        }
        return blocks;
    }

    // Calls and their answers

    private static String quoted(String text) {
        return "\"" + text.replace("\\", "\\\\").replace("\"", "\\\"") + "\"";
    }

    /** The page as a class whose run() tells, line by line, what was answered. */
    private static String source() throws IOException {
        StringBuilder helpers = new StringBuilder();
        StringBuilder run = new StringBuilder();
        for (String block : blocks("java")) {
            if (block.startsWith("static ")) {
                helpers.append(block);
                continue;
            }
            for (String line : block.split("\n")) {
                Matcher m = ANSWERED.matcher(line);
                run.append(m.matches() ? "all.add(told(() -> " + m.group(1) + ", " + quoted(m.group(3)) + ", " + quoted(line) + "));" : line);
                run.append('\n');
            }
        }
        return "import java.util.*;\nimport java.util.concurrent.Callable;\npublic final class Page {\n" + helpers
                + "private static String[] told(Callable<Object> call, String want, String line) {\n"
                + "String got;\ntry { got = String.valueOf(call.call()); }\n"
                + "catch (Exception e) { got = \"throws \" + e.getClass().getSimpleName(); }\n"
                + "return new String[] {line, got, want.equals(\"NONE\") ? \"\" + BorrowedLuck.NONE : want};\n}\n"
                + "public static List<String[]> run() {\nList<String[]> all = new ArrayList<>();\n" + run + "return all;\n}\n}\n";
    }

    private static void answers(Path folder) throws IOException, ReflectiveOperationException {
        Check.says("What README.md says of using the class (its calls and their answers)");
        Path file = folder.resolve("Page.java");
        Files.writeString(file, source());
        int ended = ToolProvider.getSystemJavaCompiler().run(null, null, null, "-encoding", "UTF-8", "-cp",
                System.getProperty("java.class.path"), "-d", folder.toString(), file.toString());
        Check.due("the page's lines compile", ended, 0);
        if (ended != 0) {
            return;
        }
        try (URLClassLoader loader = new URLClassLoader(new URL[] {folder.toUri().toURL()})) {
            List<?> all = (List<?>) loader.loadClass("Page").getMethod("run").invoke(null);
            for (Object one : all) {
                String[] row = (String[]) one;
                Check.same(row[0], row[1], row[2]);
            }
            Check.due("calls of the page with an answer", all.size(), answered());
        }
    }

    private static int answered() throws IOException {
        int marked = 0;
        for (String block : blocks("java")) {
            for (String line : block.split("\n")) {
                marked += line.contains(" // ") ? 1 : 0;
            }
        }
        return marked;
    }

    private static void allCalls() throws IOException {
        Check.says("README.md says how to use the class");
        Set<String> face = new TreeSet<>();
        for (Method method : BorrowedLuck.class.getDeclaredMethods()) {
            if (Modifier.isPublic(method.getModifiers())) {
                face.add(method.getName());
            }
        }
        Set<String> seen = new TreeSet<>();
        Matcher m = CALL.matcher(String.join("\n", blocks("java")));
        while (m.find()) {
            seen.add(m.group(1));
        }
        Check.same("calls on the page", seen.toString(), face.toString());
    }

    // Commands and tests

    private static void commands() throws IOException, InterruptedException {
        Check.says("What README.md says of running the tests");
        List<String> blocks = blocks("sh");
        Check.due("blocks of commands", blocks.size(), 2);
        Check.same("the first", blocks.get(0), ".ci/run\n");
        // It is what runs this test, so it is not run again from here.
        Check.due(".ci/run can be called", Files.isExecutable(Path.of(".ci/run")), true);
        Process shell = new ProcessBuilder("sh", "-eu", "-c", blocks.get(1)).inheritIO()
                .redirectOutput(ProcessBuilder.Redirect.DISCARD).start();
        Check.due("the second ends with", shell.waitFor(), 0);
    }

    private static void namesOfTests() throws IOException {
        Check.says("README.md says how to run its tests");
        Set<String> there = new TreeSet<>();
        try (Stream<Path> files = Files.list(Path.of("src/test/java"))) {
            files.forEach(file -> there.add(file.getFileName().toString().replace(".java", "")));
        }
        Set<String> named = new TreeSet<>();
        Matcher m = Pattern.compile("`((\\w*Test)|Model|ModelText|Check)`").matcher(Files.readString(PAGE));
        while (m.find()) {
            if (!m.group(1).equals("Test")) {
                named.add(m.group(1));
            }
        }
        Check.same("tests on the page", named.toString(), there.toString());
    }

    private static void clear(Path folder) throws IOException {
        try (Stream<Path> files = Files.walk(folder)) {
            for (Path file : files.sorted(Comparator.reverseOrder()).toList()) {
                Files.delete(file);
            }
        }
    }
}
