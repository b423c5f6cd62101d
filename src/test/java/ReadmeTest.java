import java.io.IOException;
import java.lang.reflect.Method;
import java.lang.reflect.Modifier;
import java.nio.file.Files;
import java.nio.file.Path;
import java.util.ArrayList;
import java.util.Arrays;
import java.util.List;
import java.util.TreeSet;
import java.util.regex.Matcher;
import java.util.regex.Pattern;
import java.util.stream.Stream;

/** What README.md shows holds: its examples are called, and its tables name all that there is. */
public final class ReadmeTest {
    private static final Path README = Path.of("README.md");
    private static final Path TESTS = Path.of("src/test/java");
    private static final Pattern MAKING =
        Pattern.compile("RowTurnSolver s = new RowTurnSolver\\((-?\\d+), (-?\\d+)\\);");
    private static final Pattern CALLING =
        Pattern.compile("s\\.(\\w+)\\(([-\\d, ]*)\\); +// (true|false|NONE|-?\\d+)(, .*)?");
    private static final Pattern TABLE_ROW = Pattern.compile("\\| `(\\w+Test)` \\|.*");

    private final TreeSet<String> called = new TreeSet<>();
    private Watched s;

    public static void main(String[] args) throws IOException, ReflectiveOperationException {
        List<String> lines = Files.readAllLines(README);
        ReadmeTest test = new ReadmeTest();
        for (String example : examples(lines)) {
            test.take(example);
        }
        test.everyCallIsShown();
        everyTestIsNamed(lines);
        Check.end();
    }

    private static List<String> examples(List<String> lines) {
        List<String> examples = new ArrayList<>();
        boolean inside = false;
        for (String line : lines) {
            if (line.startsWith("```")) {
                inside = line.equals("```java");
            } else if (inside && !line.isBlank()) {
                examples.add(line);
            }
        }
        return examples;
    }

    private void take(String example) throws ReflectiveOperationException {
        Matcher making = MAKING.matcher(example);
        Matcher calling = CALLING.matcher(example);
        if (making.matches()) {
            s = new Watched(Integer.parseInt(making.group(1)), Integer.parseInt(making.group(2)));
        } else if (calling.matches() && s != null) {
            String answer = answerOf(calling.group(1), calling.group(2));
            String shown = calling.group(3).replace("NONE", String.valueOf(RowTurnSolver.NONE));
            Check.due("README: " + example + " but " + answer, answer.equals(shown), true);
        } else {
            Check.due("README: an example that can be called: " + example, false, true);
        }
    }

    private String answerOf(String name, String arguments) throws ReflectiveOperationException {
        Object[] values = arguments.isBlank() ? new Object[0]
            : Arrays.stream(arguments.split(", ")).map(Integer::valueOf).toArray();
        Class<?>[] types = new Class<?>[values.length];
        Arrays.fill(types, int.class);
        called.add(name);
        return String.valueOf(Watched.class.getDeclaredMethod(name, types).invoke(s, values));
    }

    private void everyCallIsShown() {
        for (Method method : RowTurnSolver.class.getDeclaredMethods()) {
            if (Modifier.isPublic(method.getModifiers())) {
                Check.due("README has an example of " + method.getName(), called.contains(method.getName()), true);
            }
        }
    }

    private static void everyTestIsNamed(List<String> lines) throws IOException {
        TreeSet<String> named = new TreeSet<>();
        for (String line : lines) {
            Matcher row = TABLE_ROW.matcher(line);
            if (row.matches()) {
                named.add(row.group(1) + ".java");
            }
        }
        TreeSet<String> there = new TreeSet<>();
        try (Stream<Path> files = Files.list(TESTS)) {
            files.map(file -> file.getFileName().toString())
                .filter(name -> name.endsWith("Test.java"))
                .forEach(there::add);
        }
        Check.due("README names the tests " + there + ", not " + named, named.equals(there), true);
    }
}
