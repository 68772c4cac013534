import java.io.IOException;
import java.lang.reflect.Method;
import java.lang.reflect.Modifier;
import java.net.URL;
import java.net.URLClassLoader;
import java.nio.file.Files;
import java.nio.file.Path;
import java.util.ArrayList;
import java.util.List;
import java.util.Map;
import java.util.regex.Matcher;
import java.util.regex.Pattern;
import java.util.stream.Stream;
import javax.tools.JavaCompiler;
import javax.tools.ToolProvider;

/**
 * What README.md shows as a use is compiled as it stands there and run: each call answers what the page says behind it,
 * and there is one of each call of the face. And the page tells of each test.
 */
public final class ReadmeTest {
    private record Shown(int line, String call, String answer) {
    }

    private static final Path PAGE = Path.of("README.md");
    private static final Path TESTS = Path.of("src", "test", "java");
    /** A call, and its answer: a number, or the exception that it throws. */
    private static final Pattern SHOWN = Pattern.compile(
            "((?:x\\.[a-zA-Z]+\\(|read\\(x, ).*\\)); +// (?:(-?\\d+)|throws (\\w+))(?:: .+)?");
    private static final String MADE = "BeamSetter x = new BeamSetter();";

    private final Checks checks = new Checks();
    private final StringBuilder members = new StringBuilder();
    private final StringBuilder statements = new StringBuilder();
    private final List<Shown> calls = new ArrayList<>();

    // ---- the page

    private void readPage(List<String> lines) {
        List<String> block = null;
        for (int n = 0; n < lines.size(); n++) {
            String line = lines.get(n);
            if (line.equals("```java")) {
                block = new ArrayList<>();
            } else if (line.equals("```") && block != null) {
                takeBlock(block, n + 1 - block.size());
                block = null;
            } else if (block != null) {
                block.add(line);
            }
        }
        checks.due("README.md: a block that doesn't end", 0, block == null ? 0 : 1);
    }

    private void takeBlock(List<String> block, int first) {
        if (block.stream().anyMatch(line -> line.startsWith("static "))) {
            members.append(String.join("\n", block)).append('\n');
            return;
        }
        for (int k = 0; k < block.size(); k++) {
            takeStatement(block.get(k), first + k);
        }
    }

    private void takeStatement(String line, int number) {
        if (line.equals(MADE)) {
            statements.append(line).append('\n');
            return;
        }
        Matcher shown = SHOWN.matcher(line);
        if (!shown.matches()) {
            checks.due("README.md, line " + number + " is a call with its answer: " + line, 1, 0);
            return;
        }
        Shown call = new Shown(number, shown.group(1), shown.group(2) != null ? shown.group(2) : shown.group(3));
        calls.add(call);
        statements.append("try { told.put(" + number + ", \"\" + " + call.call + "); } catch (RuntimeException e) { told.put("
                + number + ", e.getClass().getSimpleName()); }\n");
    }

    private String program() {
        return "public final class ReadmeUse {\n" + members
                + "public static java.util.Map<Integer, String> use() {\n"
                + "java.util.Map<Integer, String> told = new java.util.TreeMap<>();\n" + statements
                + "return told;\n}\n}\n";
    }

    // ---- what it shows

    private static Map<?, ?> run(String program) throws IOException, ReflectiveOperationException {
        Path room = Files.createTempDirectory("readme");
        Path source = room.resolve("ReadmeUse.java");
        try {
            Files.writeString(source, program);
            JavaCompiler compiler = ToolProvider.getSystemJavaCompiler();
            if (compiler == null) {
                throw new IllegalStateException("this java has no compiler: it takes a JDK's");
            }
            String classes = System.getProperty("java.class.path");
            if (compiler.run(null, null, null, "-d", room.toString(), "-cp", classes, source.toString()) != 0) {
                return Map.of();
            }
            try (URLClassLoader loader = new URLClassLoader(new URL[] {room.toUri().toURL()})) {
                return (Map<?, ?>) loader.loadClass("ReadmeUse").getMethod("use").invoke(null);
            }
        } finally {
            Files.deleteIfExists(room.resolve("ReadmeUse.class"));
            Files.deleteIfExists(source);
            Files.deleteIfExists(room);
        }
    }

    private void useIsRight() throws IOException, ReflectiveOperationException {
        Map<?, ?> told = run(program());
        checks.due("README.md: answers to what it shows", calls.size(), told.size());
        for (Shown one : calls) {
            checks.due("README.md, line " + one.line + ": " + one.call + " is " + told.get(one.line) + " for "
                    + one.answer, 1, one.answer.equals(told.get(one.line)) ? 1 : 0);
        }
    }

    private void eachCallIsShown() {
        for (Method m : BeamSetter.class.getDeclaredMethods()) {
            if (Modifier.isPublic(m.getModifiers())) {
                boolean is = calls.stream().anyMatch(one -> one.call.startsWith("x." + m.getName() + "("));
                checks.due("README.md shows " + m.getName(), 1, is ? 1 : 0);
            }
        }
    }

    private void eachTestIsTold(String page) throws IOException {
        checks.due("README.md tells how to run the tests", 1, page.contains("\n    .ci/run\n") ? 1 : 0);
        try (Stream<Path> files = Files.list(TESTS)) {
            for (Path file : (Iterable<Path>) files.sorted()::iterator) {
                String name = file.getFileName().toString().replace(".java", "");
                if (name.endsWith("Test")) {
                    checks.due("README.md tells of " + name, 1, page.contains("`" + name + "`:") ? 1 : 0);
                }
            }
        }
    }

    private void check() throws IOException, ReflectiveOperationException {
        String page = Files.readString(PAGE);
        readPage(List.of(page.split("\n")));
        useIsRight();
        eachCallIsShown();
        eachTestIsTold(page);
        checks.end();
    }

    public static void main(String[] args) throws IOException, ReflectiveOperationException {
        new ReadmeTest().check();
    }
}
