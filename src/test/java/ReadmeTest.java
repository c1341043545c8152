import java.io.IOException;
import java.lang.reflect.Field;
import java.lang.reflect.Method;
import java.lang.reflect.Modifier;
import java.net.URL;
import java.net.URLClassLoader;
import java.nio.file.Files;
import java.nio.file.Path;
import java.util.ArrayList;
import java.util.List;
import java.util.regex.Matcher;
import java.util.regex.Pattern;
import javax.tools.ToolProvider;

/** README.md's examples answer what stands behind each call, and it names all that a caller can use. */
public final class ReadmeTest extends Check {
    private static final Path README = Path.of("README.md");
    private static final Pattern EXAMPLE = Pattern.compile("(?ms)^```java\\n(.*?)^```$");
    private static final Pattern CALL = Pattern.compile(
        "(?:int (\\w+) = )?(x\\.\\w+\\(.*\\)); *// (-?\\d+|NONE|UNKNOWN|OUTSIDE|STATE|ROOM)(?::.*)?");
    private static final Pattern NEW = Pattern.compile("TextSolver x = new TextSolver\\(\\);.*");

    private record Example(String call, String want) {
    }

    private static String readme() {
        try {
            return Files.readString(README);
        } catch (IOException e) {
            throw new IllegalStateException(e);
        }
    }

    private static List<String> exampleLines() {
        List<String> lines = new ArrayList<>();
        Matcher block = EXAMPLE.matcher(readme());
        while (block.find()) {
            lines.addAll(List.of(block.group(1).split("\n")));
        }
        return lines;
    }

    private static int numberOf(String want) {
        return switch (want) {
            case "NONE" -> NONE;
            case "UNKNOWN" -> UNKNOWN;
            case "OUTSIDE" -> OUTSIDE;
            case "STATE" -> STATE;
            case "ROOM" -> ROOM;
            default -> Integer.parseInt(want);
        };
    }

    private static void examplesHold() {
        List<Example> examples = new ArrayList<>();
        StringBuilder body = new StringBuilder();
        for (String line : exampleLines()) {
            Matcher call = CALL.matcher(line);
            if (call.matches()) {
                examples.add(new Example(call.group(2), call.group(3)));
                body.append(keeping(call.group(1), call.group(2), examples.size()));
            } else {
                due("a line that can be read: " + line, NEW.matcher(line).matches() ? 1 : 0, 1);
                body.append(line).append('\n');
            }
        }
        List<Integer> answers = answersOf(body.toString());
        due("how many calls answered", answers.size(), examples.size());
        for (int i = 0; i < answers.size(); i++) {
            Example example = examples.get(i);
            due("example " + (i + 1) + ", " + example.call(), answers.get(i), numberOf(example.want()));
        }
    }

    private static String keeping(String name, String call, int number) {
        String kept = name == null ? "answer" + number : name;
        return "int " + kept + " = " + call + ";\nanswers.add(" + kept + ");\n";
    }

    private static List<Integer> answersOf(String body) {
        String source = "public final class ReadmeExample {\n"
            + "public static java.util.List<Integer> answers() {\n"
            + "java.util.List<Integer> answers = new java.util.ArrayList<>();\n"
            + body + "return answers;\n}\n}\n";
        try {
            Path folder = Files.createTempDirectory("readme");
            Path file = folder.resolve("ReadmeExample.java");
            Path compiled = folder.resolve("ReadmeExample.class");
            Files.writeString(file, source);
            int refused = ToolProvider.getSystemJavaCompiler().run(null, null, null,
                "-cp", System.getProperty("java.class.path"), "-d", folder.toString(), file.toString());
            due("what javac makes of the examples", refused, 0);
            List<Integer> answers = new ArrayList<>();
            if (refused == 0) {
                answers.addAll(run(folder));
            }
            Files.deleteIfExists(compiled);
            Files.deleteIfExists(file);
            Files.deleteIfExists(folder);
            return answers;
        } catch (IOException | ReflectiveOperationException e) {
            throw new IllegalStateException(e);
        }
    }

    private static List<Integer> run(Path folder) throws IOException, ReflectiveOperationException {
        List<Integer> answers = new ArrayList<>();
        try (URLClassLoader loader = new URLClassLoader(new URL[] {folder.toUri().toURL()})) {
            Object got = loader.loadClass("ReadmeExample").getMethod("answers").invoke(null);
            for (Object answer : (List<?>) got) {
                answers.add((Integer) answer);
            }
        }
        return answers;
    }

    private static void dueNamed(String what, String pattern) {
        due("README.md names " + what, Pattern.compile(pattern).matcher(readme()).find() ? 1 : 0, 1);
    }

    private static void everyCallIsNamed() {
        for (Method method : TextSolver.class.getDeclaredMethods()) {
            if (Modifier.isPublic(method.getModifiers())) {
                String arguments = "\\w+, ".repeat(Math.max(0, method.getParameterCount() - 1))
                    + (method.getParameterCount() == 0 ? "" : "\\w+");
                dueNamed(method.getName(), "\\| `" + method.getName() + "\\(" + arguments + "\\)` \\|");
                dueNamed("an example of " + method.getName(), "x\\." + method.getName() + "\\(.*// ");
            }
        }
    }

    private static void everyConstantIsNamed() {
        for (Field field : TextSolver.class.getDeclaredFields()) {
            if (Modifier.isPublic(field.getModifiers())) {
                dueNamed(field.getName(), "\\| `" + field.getName() + "` \\| " + numberOf(field.getName()) + " \\|");
                dueNamed("an example of " + field.getName(), "// " + field.getName() + ": ");
            }
        }
    }

    private static void everyTestIsNamed() {
        dueNamed("how the tests are run", "(?m)^\\.ci/run$");
        try (var files = Files.list(Path.of("src/test/java"))) {
            files.forEach(file -> dueNamed(file.toString(), "`\\S*\\b" + file.getFileName() + "`"));
        } catch (IOException e) {
            throw new IllegalStateException(e);
        }
    }

    public static void main(String[] args) {
        test("README: each example answers what stands behind it", ReadmeTest::examplesHold);
        test("README: every call stands in the table and has an example", ReadmeTest::everyCallIsNamed);
        test("README: every constant stands in the table and has an example", ReadmeTest::everyConstantIsNamed);
        test("README: how the tests are run, and which there are", ReadmeTest::everyTestIsNamed);
        end();
    }
}
