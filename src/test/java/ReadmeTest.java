import java.io.IOException;
import java.lang.reflect.Method;
import java.net.URL;
import java.net.URLClassLoader;
import java.nio.file.Files;
import java.nio.file.Path;
import java.util.ArrayList;
import java.util.List;
import java.util.Set;
import java.util.TreeMap;
import java.util.TreeSet;
import java.util.function.LongConsumer;
import java.util.function.Supplier;
import java.util.regex.Matcher;
import java.util.regex.Pattern;
import java.util.stream.Stream;
import javax.tools.ToolProvider;

/** What README.md shows is what the class answers: its examples are run, its tables compared. */
public final class ReadmeTest {
    private static final Pattern CALL = Pattern.compile("(\\w+\\.\\w+\\(.*?\\));(.*)");
    private static final Pattern ANSWER = Pattern.compile("\\s+// (-?\\d+|[A-Z]+): .+");
    private static final Pattern CALL_ROW = Pattern.compile("\\| `(\\w+)\\((.*)\\)` \\| .+ \\| ?([A-Z, ]*?) ?\\|");
    private static final Pattern REFUSAL_ROW = Pattern.compile("\\| `([A-Z]+)` \\| (-?\\d+) \\| .+ \\|");
    private static final String[] REFUSALS = {"UNKNOWN", "OUTSIDE", "STATE", "FULL"};
    private static final List<Supplier<MirrorClerks>> SCENES =
        List.of(Scenes::fresh, Scenes::bare, Scenes::busy, Scenes::full);
    private static final int[] NUMBERS = {
        Integer.MIN_VALUE, -2, -1, 0, 1, 2, 3, 4, 5, 11, 12, 60, 61, 127, Integer.MAX_VALUE};

    public static void main(String[] args) throws IOException, ReflectiveOperationException {
        List<String> lines = Files.readAllLines(Path.of(args.length > 0 ? args[0] : "README.md"));
        examples(lines);
        refusals(lines);
        calls(lines);
        tests(String.join("\n", lines));
        Check.end("ReadmeTest");
    }

    // ---- the examples

    private static void examples(List<String> lines) throws IOException, ReflectiveOperationException {
        List<String> calls = new ArrayList<>();
        List<Long> wants = new ArrayList<>();
        StringBuilder body = new StringBuilder();
        for (String line : exampleLines(lines)) {
            Matcher call = CALL.matcher(line);
            if (!call.matches()) {
                body.append(line).append('\n');
                continue;
            }
            Matcher answer = ANSWER.matcher(call.group(2));
            Check.isTrue("README.md tells the answer of " + line, answer.matches());
            calls.add(call.group(1));
            wants.add(answer.matches() ? number(answer.group(1)) : 0);
            body.append("told.accept(").append(call.group(1)).append(");\n");
        }
        Check.isTrue("README.md shows calls", !calls.isEmpty());
        List<Long> answers = answersOf(body.toString());
        Check.due("how many examples of README.md are answered", answers.size(), calls.size());
        for (int i = 0; i < Math.min(answers.size(), calls.size()); i++) {
            Check.due("README.md: " + calls.get(i), answers.get(i), wants.get(i));
        }
    }

    /** The lines of all examples, which go on from one another. */
    private static List<String> exampleLines(List<String> lines) {
        List<String> examples = new ArrayList<>();
        boolean isExample = false;
        for (String line : lines) {
            if (line.startsWith("```")) {
                isExample = line.equals("```java");
            } else if (isExample) {
                examples.add(line);
            }
        }
        return examples;
    }

    private static long number(String answer) throws ReflectiveOperationException {
        boolean isName = Character.isUpperCase(answer.charAt(0));
        return isName ? MirrorClerks.class.getField(answer).getInt(null) : Long.parseLong(answer);
    }

    private static List<Long> answersOf(String body) throws IOException, ReflectiveOperationException {
        List<Long> answers = new ArrayList<>();
        Path folder = Files.createTempDirectory("readme");
        try {
            Path source = folder.resolve("ReadmeExamples.java");
            Files.writeString(source, "public final class ReadmeExamples {\n"
                + "public static void tell(java.util.function.LongConsumer told) {\n" + body + "}\n}\n");
            int failed = ToolProvider.getSystemJavaCompiler().run(null, null, null,
                "-cp", System.getProperty("java.class.path"), "-d", folder.toString(), source.toString());
            Check.due("the examples of README.md compile", failed, 0);
            if (failed == 0) {
                tell(folder, answers::add);
            }
        } finally {
            remove(folder);
        }
        return answers;
    }

    private static void tell(Path folder, LongConsumer told) throws IOException, ReflectiveOperationException {
        try (URLClassLoader loader = new URLClassLoader(new URL[] {folder.toUri().toURL()})) {
            loader.loadClass("ReadmeExamples").getMethod("tell", LongConsumer.class).invoke(null, told);
        }
    }

    private static void remove(Path folder) throws IOException {
        try (Stream<Path> files = Files.list(folder)) {
            for (Path file : files.toList()) {
                Files.delete(file);
            }
        }
        Files.delete(folder);
    }

    // ---- the tables

    private static void refusals(List<String> lines) throws ReflectiveOperationException {
        Set<String> told = new TreeSet<>();
        for (String line : lines) {
            Matcher row = REFUSAL_ROW.matcher(line);
            if (row.matches()) {
                told.add(row.group(1));
                Check.due("README.md: " + row.group(1), Long.parseLong(row.group(2)), number(row.group(1)));
            }
        }
        Check.isTrue("README.md tells each refusal: " + told, told.equals(Set.of(REFUSALS)));
        Check.isTrue("README.md tells NONE", String.join("\n", lines).contains("`NONE` (" + MirrorClerks.NONE + ")"));
    }

    private static void calls(List<String> lines) throws ReflectiveOperationException {
        TreeMap<String, Integer> due = new TreeMap<>();
        for (Method method : MirrorClerks.class.getMethods()) {
            if (method.getDeclaringClass() == MirrorClerks.class) {
                due.put(method.getName(), method.getParameterCount());
            }
        }
        TreeMap<String, Integer> told = new TreeMap<>();
        for (String line : lines) {
            Matcher row = CALL_ROW.matcher(line);
            if (row.matches()) {
                int parameters = row.group(2).isEmpty() ? 0 : row.group(2).split(", ").length;
                told.put(row.group(1), parameters);
                String answered = refusalsOf(row.group(1), parameters);
                Check.isTrue("README.md: of " + row.group(1) + " answered are " + answered,
                    answered.equals(row.group(3)));
            }
        }
        Check.isTrue("README.md has a row for each call: " + told, told.equals(due));
    }

    /** Which refusals a call answers, by many numbers and in objects of each kind; as ordered in each promise. */
    private static String refusalsOf(String call, int parameters) throws ReflectiveOperationException {
        Set<Long> answers = new TreeSet<>();
        int rows = (int) Math.round(Math.pow(NUMBERS.length, parameters));
        for (Supplier<MirrorClerks> scene : SCENES) {
            for (int row = 0; row < rows; row++) {
                answers.add(Check.ask(scene.get(), call, numbersOf(row, parameters)));
            }
        }
        List<String> answered = new ArrayList<>();
        for (String refusal : REFUSALS) {
            if (answers.contains(number(refusal))) {
                answered.add(refusal);
            }
        }
        return String.join(", ", answered);
    }

    private static int[] numbersOf(int row, int parameters) {
        int[] numbers = new int[parameters];
        int rest = row;
        for (int i = 0; i < parameters; i++) {
            numbers[i] = NUMBERS[rest % NUMBERS.length];
            rest /= NUMBERS.length;
        }
        return numbers;
    }

    // ---- the tests

    private static void tests(String readme) throws IOException {
        Check.isTrue("README.md tells how the tests are run", readme.contains("`.ci/run`"));
        try (Stream<Path> files = Files.list(Path.of("src/test/java"))) {
            for (Path file : files.toList()) {
                String name = file.getFileName().toString().replace(".java", "");
                boolean isTold = !name.endsWith("Test") || readme.contains("`" + name + "`");
                Check.isTrue("README.md tells of " + name, isTold);
            }
        }
    }
}
