import java.io.IOException;
import java.net.URL;
import java.net.URLClassLoader;
import java.nio.file.Files;
import java.nio.file.Path;
import java.util.ArrayList;
import java.util.List;
import java.util.TreeSet;
import java.util.regex.Matcher;
import java.util.regex.Pattern;
import java.util.stream.Stream;
import javax.tools.ToolProvider;

/** Plays the examples of README.md as they stand there: each answer must be the one behind its call. Run from the root. */
public final class ReadmeTest {
    private static final Pattern EXAMPLE = Pattern.compile("(?s)```java\n(.*?)```");
    private static final Pattern ANSWERED = Pattern.compile("(x\\.(\\w+)\\(.*\\)); // (-?\\d+|[A-Z_]+)(: .*)?");

    /** The calls that are answered, their names, and what is due, of all examples in their order. */
    private final List<String> calls = new ArrayList<>();
    private final TreeSet<String> names = new TreeSet<>();
    private final List<String> dues = new ArrayList<>();
    private final StringBuilder program = new StringBuilder();

    public static void main(String[] args) throws Exception {
        ReadmeTest test = new ReadmeTest();
        test.read(Files.readString(Path.of("README.md")));
        test.eachMethodIsShown();
        test.answersAreAsDue(test.played());
        test.constantsAreAsTold(Files.readString(Path.of("README.md")));
        Checks.end();
    }

    private void read(String readme) {
        Matcher example = EXAMPLE.matcher(readme);
        while (example.find()) {
            program.append("{\n");
            example.group(1).lines().forEach(this::readLine);
            program.append("}\n");
        }
    }

    private void readLine(String line) {
        Matcher answered = ANSWERED.matcher(line);
        if (!answered.matches()) {
            Checks.isTrue("a line without an answer makes an object or types: " + line,
                line.equals("SoldLetters x = new SoldLetters();") || line.matches("for \\(.*\\) x\\.type\\(c\\);"));
            program.append(line).append('\n');
            return;
        }
        String due = answered.group(3);
        calls.add(answered.group(1));
        names.add(answered.group(2));
        dues.add(Character.isLetter(due.charAt(0)) ? "SoldLetters." + due : due);
        program.append("got.add(").append(answered.group(1)).append(");\n");
        program.append("due.add(").append(dues.get(dues.size() - 1)).append(");\n");
    }

    private void eachMethodIsShown() {
        for (var method : SoldLetters.class.getDeclaredMethods()) {
            if (java.lang.reflect.Modifier.isPublic(method.getModifiers())) {
                Checks.isTrue(method.getName() + " is shown with an answer", names.contains(method.getName()));
            }
        }
    }

    /** What the examples answered, and what was due. */
    private List<List<Integer>> played() throws Exception {
        Path directory = Files.createTempDirectory("readme");
        try {
            Path source = directory.resolve("ReadmeExamples.java");
            Files.writeString(source, "import java.util.List;\npublic final class ReadmeExamples {\n"
                + "public static void play(List<Integer> got, List<Integer> due) {\n" + program + "}\n}\n");
            int failed = ToolProvider.getSystemJavaCompiler().run(null, null, null, "-encoding", "UTF-8",
                "-cp", System.getProperty("java.class.path"), "-d", directory.toString(), source.toString());
            Checks.due("errors of the compiler", failed, 0);
            List<List<Integer>> answers = List.of(new ArrayList<>(), new ArrayList<>());
            try (URLClassLoader loader = new URLClassLoader(new URL[] {directory.toUri().toURL()})) {
                loader.loadClass("ReadmeExamples").getMethod("play", List.class, List.class)
                    .invoke(null, answers.get(0), answers.get(1));
            }
            return answers;
        } finally {
            remove(directory);
        }
    }

    private static void remove(Path directory) throws IOException {
        List<Path> files;
        try (Stream<Path> inside = Files.list(directory)) {
            files = inside.toList();
        }
        for (Path file : files) {
            Files.delete(file);
        }
        Files.delete(directory);
    }

    private void answersAreAsDue(List<List<Integer>> answers) {
        Checks.isTrue("there are examples", !calls.isEmpty());
        Checks.due("answers", answers.get(0).size(), calls.size());
        for (int i = 0; i < calls.size(); i++) {
            Checks.due("README.md, " + calls.get(i), answers.get(0).get(i), answers.get(1).get(i));
        }
    }

    private void constantsAreAsTold(String readme) {
        Matcher row = Pattern.compile("\\| (-\\d) \\| `([A-Z_]+)` \\|").matcher(readme);
        int rows = 0;
        while (row.find()) {
            rows++;
            try {
                Checks.due(row.group(2), SoldLetters.class.getField(row.group(2)).getInt(null), Integer.parseInt(row.group(1)));
            } catch (ReflectiveOperationException e) {
                Checks.isTrue("there is a constant " + row.group(2), false);
            }
        }
        Checks.due("constants", rows, 5);
    }
}
