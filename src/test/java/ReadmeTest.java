import java.io.IOException;
import java.lang.reflect.Method;
import java.net.URL;
import java.net.URLClassLoader;
import java.nio.file.Files;
import java.nio.file.Path;
import java.util.ArrayList;
import java.util.List;
import java.util.regex.MatchResult;
import java.util.regex.Matcher;
import java.util.regex.Pattern;
import javax.tools.ToolProvider;

/** README.md's example compiles, shows every call, and each call answers what its line says. */
public final class ReadmeTest extends Checks {
    private static final Pattern BLOCK = Pattern.compile("```java\n(.*?)```", Pattern.DOTALL);
    private static final Pattern CALL =
            Pattern.compile("(int (\\w+) = )?(house\\..*); +// (-?\\d+|true|false)\\b.*");
    private static final Pattern NAME = Pattern.compile("house\\.(\\w+)\\(");

    private final List<String> calls = new ArrayList<>();
    private final List<String> answers = new ArrayList<>();
    private final StringBuilder body = new StringBuilder();

    public static void main(String[] args) throws Exception {
        String example = example();
        ReadmeTest test = new ReadmeTest();
        for (String line : example.split("\n")) {
            test.read(line);
        }
        test.holdAnswers();
        everyCallIsShown(example);
        end("ReadmeTest");
    }

    private static String example() throws IOException {
        Matcher block = BLOCK.matcher(Files.readString(Path.of("README.md")));
        boolean isThere = block.find();
        due("README.md has an example", isThere, true);
        return isThere ? block.group(1) : "";
    }

    private void read(String line) {
        Matcher call = CALL.matcher(line);
        if (!call.matches()) {
            due("README.md tells the answer: " + line, !line.contains("house."), true);
            body.append(line).append('\n');
            return;
        }
        String asked = call.group(3);
        if (call.group(1) != null) {
            body.append(call.group(1)).append(asked).append(";\n");
            asked = call.group(2);
        }
        body.append("got.add(String.valueOf(").append(asked).append("));\n");
        calls.add(line);
        answers.add(call.group(4));
    }

    private void holdAnswers() throws Exception {
        List<?> got = answersOf(body.toString());
        due("answers of README.md's example", got.size(), answers.size());
        for (int k = 0; k < Math.min(got.size(), answers.size()); k++) {
            due("README.md: " + calls.get(k), String.valueOf(got.get(k)), answers.get(k));
        }
    }

    private static List<?> answersOf(String body) throws Exception {
        Path made = Files.createTempDirectory("readme");
        Path source = made.resolve("ReadmeExample.java");
        Path compiled = made.resolve("ReadmeExample.class");
        Files.writeString(source, "public class ReadmeExample {\n"
                + "public static java.util.List<String> answers() {\n"
                + "java.util.List<String> got = new java.util.ArrayList<>();\n"
                + body + "return got;\n}\n}\n");
        int failed = ToolProvider.getSystemJavaCompiler().run(null, null, null,
                "-cp", System.getProperty("java.class.path"), source.toString());
        due("README.md's example compiles", failed, 0);
        URL[] where = {made.toUri().toURL()};
        try (URLClassLoader loader = new URLClassLoader(where)) {
            return failed != 0 ? List.of()
                    : (List<?>) loader.loadClass("ReadmeExample").getMethod("answers").invoke(null);
        } finally {
            Files.delete(source);
            Files.deleteIfExists(compiled);
            Files.delete(made);
        }
    }

    private static void everyCallIsShown(String example) {
        List<String> shown = NAME.matcher(example).results().map(ReadmeTest::nameIn).toList();
        for (Method call : PressureNets.class.getMethods()) {
            if (call.getDeclaringClass() == PressureNets.class) {
                due("README.md shows " + call.getName(), shown.contains(call.getName()), true);
            }
        }
    }

    private static String nameIn(MatchResult found) {
        return found.group(1);
    }
}
