import java.io.IOException;
import java.lang.reflect.Method;
import java.lang.reflect.Modifier;
import java.net.URL;
import java.net.URLClassLoader;
import java.nio.file.DirectoryStream;
import java.nio.file.Files;
import java.nio.file.Path;
import java.util.ArrayList;
import java.util.Arrays;
import java.util.List;
import java.util.regex.Matcher;
import java.util.regex.Pattern;
import java.util.stream.Collectors;
import javax.tools.ToolProvider;

/** README.md's example answers what it says, and neither a call of the face nor a test is left out. */
public final class ReadmeTest {
    private static final Path README = Path.of("README.md");
    private static final Path TESTS = Path.of("src/test/java");
    private static final Pattern EXAMPLE = Pattern.compile("```java\n(.*?)```", Pattern.DOTALL);
    private static final Pattern CALL = Pattern.compile("(core\\.(\\w+)\\(.*\\)); +// ([^:]+)(: .+)?");

    private final Tally tally;
    private final String text;
    private final List<String> calls = new ArrayList<>();
    private final List<String> names = new ArrayList<>();
    private final List<String> wanted = new ArrayList<>();

    private ReadmeTest(Tally tally, String text) {
        this.tally = tally;
        this.text = text;
    }

    public static void main(String[] args) throws Exception {
        Tally tally = new Tally("ReadmeTest");
        ReadmeTest test = new ReadmeTest(tally, Files.readString(README));
        test.readExample();
        test.dueAnswers();
        test.dueFace();
        test.dueTests();
        tally.end();
    }

    private void readExample() {
        Matcher block = EXAMPLE.matcher(text);
        tally.due("an example", block.find(), true);
        String[] lines = block.group(1).split("\n");
        tally.due("the example's first line", lines[0], "CapabilityCore core = new CapabilityCore();");
        for (String line : Arrays.copyOfRange(lines, 1, lines.length)) {
            Matcher call = CALL.matcher(line);
            boolean matches = call.matches();
            tally.due("a call with its answer: " + line, matches, true);
            if (matches) {
                calls.add(call.group(1));
                names.add(call.group(2));
                wanted.add(call.group(3));
            }
        }
    }

    private void dueAnswers() throws Exception {
        Path directory = Files.createTempDirectory("readme");
        try {
            Object[] answers = compileAndAsk(directory);
            for (int k = 0; k < calls.size(); k++) {
                tally.due(calls.get(k), String.valueOf(answers[k]), wanted.get(k));
            }
        } finally {
            delete(directory);
        }
    }

    private Object[] compileAndAsk(Path directory) throws Exception {
        Path source = directory.resolve("Example.java");
        Files.writeString(source, "public final class Example {\n"
            + "    public static Object[] answers() {\n"
            + "        CapabilityCore core = new CapabilityCore();\n"
            + "        return new Object[] {\n" + String.join(",\n", calls) + "};\n"
            + "    }\n}\n");
        int failed = ToolProvider.getSystemJavaCompiler().run(null, null, null,
            "-cp", System.getProperty("java.class.path"), "-d", directory.toString(), source.toString());
        tally.due("compiling the example", failed, 0);
        URL[] places = {directory.toUri().toURL()};
        try (URLClassLoader loader = new URLClassLoader(places)) {
            return (Object[]) loader.loadClass("Example").getMethod("answers").invoke(null);
        }
    }

    private static void delete(Path directory) throws IOException {
        try (DirectoryStream<Path> files = Files.newDirectoryStream(directory)) {
            for (Path file : files) {
                Files.delete(file);
            }
        }
        Files.delete(directory);
    }

    private void dueFace() {
        tally.due("the constructor is told", text.contains("\n| `CapabilityCore()` |"), true);
        tally.due("NONE is told", text.contains("`CapabilityCore.NONE` is " + CapabilityCore.NONE), true);
        for (Method method : CapabilityCore.class.getDeclaredMethods()) {
            if (Modifier.isPublic(method.getModifiers())) {
                String name = method.getName();
                tally.due(name + " is told with its arguments", row(method).matcher(text).find(), true);
                tally.due(name + " is in the example", names.contains(name), true);
            }
        }
    }

    private static Pattern row(Method method) {
        String parameters = Arrays.stream(method.getParameterTypes())
            .map(type -> type.getName() + " \\w+").collect(Collectors.joining(", "));
        return Pattern.compile("\n\\| `" + method.getReturnType().getName() + " " + method.getName()
            + "\\(" + parameters + "\\)` \\|[^|]+\\|[^|]+\\|\n");
    }

    private void dueTests() throws IOException {
        try (DirectoryStream<Path> files = Files.newDirectoryStream(TESTS, "*.java")) {
            for (Path file : files) {
                String name = file.getFileName().toString().replace(".java", "");
                tally.due(name + " is told", text.contains("`" + name + "`"), true);
            }
        }
    }
}
