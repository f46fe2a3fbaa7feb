import java.io.ByteArrayOutputStream;
import java.io.File;
import java.io.IOException;
import java.io.PrintStream;
import java.lang.reflect.Method;
import java.lang.reflect.Modifier;
import java.net.URL;
import java.net.URLClassLoader;
import java.nio.charset.StandardCharsets;
import java.nio.file.Files;
import java.nio.file.Path;
import java.util.ArrayList;
import java.util.List;
import java.util.Set;
import java.util.TreeSet;
import java.util.regex.Matcher;
import java.util.regex.Pattern;
import java.util.stream.Stream;
import javax.tools.ToolProvider;

/** What README.md says is so: its example answers what its comments say, and it names every call, every test and every helper. */
public final class ReadmeTest {
    private static final Pattern EXAMPLE = Pattern.compile("(?s)```java\\R(.*?)```");
    private static final Pattern ANSWER = Pattern.compile("(?:int|long|boolean) (\\w+) = .*; +// (-?\\d+|true|false)\\b.*");
    private static final Pattern PRINTED = Pattern.compile(".*System\\.out\\.print.*; +// (.*)");
    private static final Path TESTS = Path.of("src", "test", "java"), HELPERS = Path.of("src", "test", "helpers"), SCRIPT = Path.of(".ci", "run");
    private static final Check check = new Check();

    public static void main(String[] args) throws IOException, ReflectiveOperationException {
        String readme = Files.readString(Path.of("README.md"));
        exampleAnswers(readme);
        callsAreNamed(readme);
        testsAreNamed(readme);
        check.same("README.md names the script", readme.contains("    bash " + SCRIPT), true);
        check.same("the script is executable", Files.isExecutable(SCRIPT), true);
        check.finish();
    }

    private static void exampleAnswers(String readme) throws IOException, ReflectiveOperationException {
        Matcher example = EXAMPLE.matcher(readme);
        check.same("there is an example", example.find(), true);
        StringBuilder code = new StringBuilder("public final class Example { public static void main(String[] args) {\n");
        List<String> due = new ArrayList<>();
        for (String line : example.group(1).split("\\R")) {
            code.append(line).append('\n');
            Matcher answer = ANSWER.matcher(line);
            Matcher printed = PRINTED.matcher(line);
            if (answer.matches()) {
                due.add(answer.group(2));
                code.append("System.out.println(").append(answer.group(1)).append(");\n");
            } else if (printed.matches()) {
                due.add(printed.group(1));
                code.append("System.out.println();\n");
            }
        }
        check.same("answers in the example", due.size() > 5, true);
        check.same("the example", printedBy(code.append("} }").toString()), due.toString());
    }

    private static String printedBy(String code) throws IOException, ReflectiveOperationException {
        Path room = Files.createTempDirectory("readme");
        Path source = Files.writeString(room.resolve("Example.java"), code);
        String[] options = {"--release", "17", "-cp", System.getProperty("java.class.path"), "-d", room.toString(), source.toString()};
        if (ToolProvider.getSystemJavaCompiler().run(null, null, null, options) != 0) {
            return "not compiled";
        }
        PrintStream usual = System.out;
        ByteArrayOutputStream printed = new ByteArrayOutputStream();
        try (URLClassLoader loader = new URLClassLoader(new URL[] {room.toUri().toURL()})) {
            System.setOut(new PrintStream(printed, true, StandardCharsets.UTF_8));
            loader.loadClass("Example").getMethod("main", String[].class).invoke(null, (Object) new String[0]);
        } finally {
            System.setOut(usual);
            try (Stream<Path> files = Files.list(room)) {
                files.map(Path::toFile).forEach(File::delete);
            }
            Files.delete(room);
        }
        return List.of(printed.toString(StandardCharsets.UTF_8).split("\\R")).toString();
    }

    private static void callsAreNamed(String readme) {
        for (Method call : DecimalPatterns.class.getDeclaredMethods()) {
            if (Modifier.isPublic(call.getModifiers())) {
                check.same("README.md names " + call.getName(), readme.contains("`" + call.getName() + "("), true);
            }
        }
    }

    private static void testsAreNamed(String readme) throws IOException {
        Set<String> named = new TreeSet<>();
        Matcher names = Pattern.compile("`(\\w+Test)`").matcher(readme);
        while (names.find()) {
            named.add(names.group(1));
        }
        check.same("the tests that README.md names", named.toString(), namesIn(TESTS).toString());
        for (String helper : namesIn(HELPERS)) {
            check.same("README.md names the helper " + helper, readme.contains("`" + helper + "`"), true);
        }
    }

    private static Set<String> namesIn(Path folder) throws IOException {
        Set<String> names = new TreeSet<>();
        try (Stream<Path> files = Files.list(folder)) {
            files.forEach(file -> names.add(file.getFileName().toString().replace(".java", "")));
        }
        return names;
    }
}
