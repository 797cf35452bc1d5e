import java.io.IOException;
import java.net.URL;
import java.net.URLClassLoader;
import java.nio.charset.StandardCharsets;
import java.nio.file.Files;
import java.nio.file.Path;
import java.util.List;
import java.util.regex.Matcher;
import java.util.regex.Pattern;
import java.util.stream.Collectors;
import java.util.stream.Stream;
import javax.tools.ToolProvider;

/** README.md: its example answers as it says, its command is .ci/run, and it names each test. The class's path is the argument. */
public final class ReadmeTest {
    /** A call and, behind it, what README.md says that it answers. */
    private static final Pattern TOLD = Pattern.compile("(\\S.*);\\s*// (-?\\d+)(:.*)?");
    private static final Check check = new Check("ReadmeTest");

    private ReadmeTest() {
    }

    public static void main(String[] args) throws IOException, ReflectiveOperationException {
        Path root = Path.of(args[0]).toAbsolutePath().getParent().getParent().getParent().getParent();
        String readme = Files.readString(root.resolve("README.md"), StandardCharsets.UTF_8);
        example(readme);
        command(readme, root);
        check.close();
    }

    /** The example calls this, too. */
    public static void due(String call, long want, long got) {
        check.due(call, want, got);
    }

    private static void example(String readme) throws IOException, ReflectiveOperationException {
        Matcher block = Pattern.compile("(?s)```java\n(.*?)```").matcher(readme);
        check.holds("there is an example", block.find());
        int told = 0;
        StringBuilder code = new StringBuilder("public final class ReadmeExample {\n    public static void run() {\n");
        for (String line : block.group(1).split("\n")) {
            Matcher call = TOLD.matcher(line);
            if (call.matches()) {
                String text = call.group(1).replace("\\", "\\\\").replace("\"", "\\\"");
                code.append("ReadmeTest.due(\"").append(text).append("\", ").append(call.group(2)).append("L, ").append(call.group(1)).append(");\n");
                told++;
            } else {
                code.append(line).append('\n');
            }
        }
        check.holds("the example says what calls answer", told >= 5);
        run(code.append("    }\n}\n").toString());
        check.holds("there is no other example", !block.find());
    }

    private static void run(String code) throws IOException, ReflectiveOperationException {
        Path place = Files.createTempDirectory("readme");
        Path file = place.resolve("ReadmeExample.java");
        Files.writeString(file, code, StandardCharsets.UTF_8);
        int failed = ToolProvider.getSystemJavaCompiler().run(null, null, null, "-cp", System.getProperty("java.class.path"), "-d", place.toString(),
            file.toString());
        check.due("the example compiles", 0, failed);
        if (failed == 0) {
            try (URLClassLoader classes = new URLClassLoader(new URL[] {place.toUri().toURL()})) {
                classes.loadClass("ReadmeExample").getMethod("run").invoke(null);
            }
        }
        List<Path> made;
        try (Stream<Path> all = Files.list(place)) {
            made = all.collect(Collectors.toList());
        }
        for (Path one : made) {
            Files.delete(one);
        }
        Files.delete(place);
    }

    private static void command(String readme, Path root) throws IOException {
        check.holds("the command is bash .ci/run", readme.contains("`bash .ci/run`"));
        check.holds("there is a script that can be run", Files.isExecutable(root.resolve(".ci/run")));
        List<String> tests;
        try (Stream<Path> all = Files.list(root.resolve("src/test/java"))) {
            tests = all.map(path -> path.getFileName().toString()).filter(name -> name.endsWith("Test.java")).sorted().collect(Collectors.toList());
        }
        check.holds("there are tests", !tests.isEmpty());
        for (String test : tests) {
            check.holds("README.md names " + test, readme.contains("`" + test.replace(".java", "") + "`"));
        }
    }
}
