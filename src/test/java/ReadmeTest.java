import java.io.IOException;
import java.lang.reflect.Field;
import java.lang.reflect.Method;
import java.lang.reflect.Modifier;
import java.net.URL;
import java.net.URLClassLoader;
import java.nio.file.Files;
import java.nio.file.Path;
import java.util.ArrayList;
import java.util.List;
import java.util.function.Consumer;
import java.util.function.LongSupplier;
import java.util.regex.Matcher;
import java.util.regex.Pattern;
import javax.tools.ToolProvider;

/**
 * README.md, in the folder that the test is started in: its examples are compiled as they stand there
 * and run, and each call answers what the comment behind it begins with.
 */
public final class ReadmeTest {
    private static final Path README = Path.of("README.md");
    private static final String NEW_OBJECT = "EventRows rows = new EventRows();";

    /** A call, perhaps kept in a variable, and behind it a number, a constant or what is thrown, perhaps with a reason. */
    private static final Pattern EXAMPLE = Pattern.compile(
            "(?:long (\\w+) = )?(rows\\.(\\w+)\\(.*\\)); +// (-?\\d+|[A-Z]+|throws \\w+)(?:: .+)?");

    private static final Due DUE = new Due("ReadmeTest");

    /** 'said' is the answer in README.md's words, 'due' the same as Due tells it. */
    private record Example(int line, String call, String method, String said, String due) {
    }

    private final List<Example> examples = new ArrayList<>();
    private final StringBuilder source = new StringBuilder();

    public static void main(String[] args) throws IOException, ReflectiveOperationException {
        ReadmeTest test = new ReadmeTest();
        test.read(Files.readAllLines(README));
        test.answersAreAsDue(test.run());
        test.eachCallHasAnExample();
        test.eachConstantIsAnAnswer();
        test.eachExceptionIsAnAnswer();
        DUE.end();
    }

    /** What stands in README.md as Java becomes the source of a class, a part in braces for each example. */
    private void read(List<String> lines) {
        source.append("public final class ReadmeExamples {\n public static void run(")
                .append("java.util.function.Consumer<java.util.function.LongSupplier> due) {\n");
        boolean inJava = false;
        for (int k = 0; k < lines.size(); k++) {
            String line = lines.get(k);
            if (line.equals("```java")) {
                inJava = true;
                source.append("{\n");
            } else if (line.equals("```") && inJava) {
                inJava = false;
                source.append("}\n");
            } else if (inJava) {
                readExample(k + 1, line);
            }
        }
        source.append(" }\n}\n");
    }

    private void readExample(int number, String line) {
        Matcher parts = EXAMPLE.matcher(line);
        if (line.equals(NEW_OBJECT)) {
            source.append(line).append('\n');
        } else if (!parts.matches()) {
            DUE.report("line " + number + " is no call with its answer: " + line);
        } else {
            String variable = parts.group(1);
            String call = parts.group(2);
            if (variable != null) {
                source.append("long ").append(variable).append(" = ").append(call).append(";\n");
            }
            source.append("due.accept(() -> ").append(variable == null ? call : variable).append(");\n");
            examples.add(new Example(number, call, parts.group(3), parts.group(4), due(parts.group(4))));
        }
    }

    private static String due(String said) {
        if (said.startsWith("throws ")) {
            return "java.lang." + said.substring("throws ".length());
        }
        return Character.isUpperCase(said.charAt(0)) ? "" + constant(said) : said;
    }

    private static long constant(String name) {
        try {
            return EventRows.class.getField(name).getInt(null);
        } catch (ReflectiveOperationException e) {
            DUE.report("there is no constant " + name);
            return 0;
        }
    }

    /** The answers of all examples, in order. */
    private List<String> run() throws IOException, ReflectiveOperationException {
        List<String> answers = new ArrayList<>();
        Consumer<LongSupplier> seen = call -> answers.add(Due.answerOf(call::getAsLong));
        Path folder = Files.createTempDirectory("readme");
        Path file = folder.resolve("ReadmeExamples.java");
        Path compiled = folder.resolve("ReadmeExamples.class");
        Files.writeString(file, source);
        int failed = ToolProvider.getSystemJavaCompiler().run(null, null, null,
                "-cp", System.getProperty("java.class.path"), "-d", folder.toString(), file.toString());
        if (failed == 0) {
            try (URLClassLoader loader = new URLClassLoader(new URL[] {folder.toUri().toURL()})) {
                loader.loadClass("ReadmeExamples").getMethod("run", Consumer.class).invoke(null, seen);
            }
        } else {
            DUE.report("the examples do not compile");
        }
        Files.deleteIfExists(compiled);
        Files.delete(file);
        Files.delete(folder);
        return answers;
    }

    private void answersAreAsDue(List<String> answers) {
        DUE.is("how many examples were run", answers.size(), examples.size());
        for (int k = 0; k < answers.size() && k < examples.size(); k++) {
            Example example = examples.get(k);
            if (!answers.get(k).equals(example.due())) {
                DUE.report("line " + example.line() + ": " + example.call() + " answered " + answers.get(k)
                        + ", README.md says " + example.said());
            }
        }
    }

    private void eachCallHasAnExample() {
        for (Method method : EventRows.class.getDeclaredMethods()) {
            boolean there = examples.stream().anyMatch(example -> example.method().equals(method.getName()));
            if (Modifier.isPublic(method.getModifiers()) && !there) {
                DUE.report("there is no example of " + method.getName());
            }
        }
    }

    private void eachConstantIsAnAnswer() {
        for (Field field : EventRows.class.getFields()) {
            isAnAnswer(field.getName());
        }
    }

    private void eachExceptionIsAnAnswer() {
        for (Method method : EventRows.class.getDeclaredMethods()) {
            for (Class<?> thrown : method.getExceptionTypes()) {
                isAnAnswer("throws " + thrown.getSimpleName());
            }
        }
    }

    private void isAnAnswer(String said) {
        if (examples.stream().noneMatch(example -> example.said().equals(said))) {
            DUE.report("no example answers " + said);
        }
    }
}
