import java.io.IOException;
import java.lang.reflect.Field;
import java.lang.reflect.Method;
import java.lang.reflect.Modifier;
import java.nio.file.Files;
import java.nio.file.Path;
import java.util.Arrays;
import java.util.HashMap;
import java.util.List;
import java.util.Map;
import java.util.TreeSet;
import java.util.regex.MatchResult;
import java.util.regex.Matcher;
import java.util.regex.Pattern;
import java.util.stream.Collectors;
import java.util.stream.Stream;

/** README.md: its example answers as it says, and it names every call, error and test. */
public final class ReadmeTest {
    private static final Path README = Path.of("README.md");
    private static final Path TESTS = Path.of("src/test/java");
    private static final Pattern CALL = Pattern.compile("(?:int (\\w+) = )?x\\.(\\w+)\\((.*)\\); +// (-?\\d+).*");
    private static final String MAKES = "CommitteeBallots x = new CommitteeBallots();";

    public static void main(String[] args) throws IOException, ReflectiveOperationException {
        String readme = Files.readString(README);
        example(readme);
        calls(readme);
        errors(readme);
        tests(readme);
        Check.end("ReadmeTest");
    }

    /** Makes the calls of the example one by one, and compares what stands behind them. */
    private static void example(String readme) throws ReflectiveOperationException {
        Check.begin("README's example");
        CommitteeBallots x = new CommitteeBallots();
        Map<String, Integer> names = new HashMap<>();
        List<String> lines = allOf("(?s)```java\n(.*?)```", readme).get(0).lines().toList();
        Check.holds("makes a committee", lines.get(0).equals(MAKES));
        for (String line : lines.subList(1, lines.size())) {
            Matcher call = CALL.matcher(line);
            Check.holds(line + " is a call and its answer", call.matches());
            if (call.matches()) {
                int answer = answer(x, call.group(2), call.group(3), names);
                Check.due(line, Integer.parseInt(call.group(4)), answer);
                if (call.group(1) != null) {
                    names.put(call.group(1), answer);
                }
            }
        }
    }

    private static int answer(CommitteeBallots x, String name, String written, Map<String, Integer> names)
            throws ReflectiveOperationException {
        Object[] arguments = parts(written).map(part -> number(part, names)).toArray();
        Class<?>[] types = new Class<?>[arguments.length];
        Arrays.fill(types, int.class);
        return (int) CommitteeBallots.class.getMethod(name, types).invoke(x, arguments);
    }

    private static int number(String part, Map<String, Integer> names) {
        if (part.startsWith("'")) {
            return part.charAt(1);
        }
        return names.containsKey(part) ? names.get(part) : Integer.parseInt(part);
    }

    private static Stream<String> parts(String written) {
        return Stream.of(written.split(", ")).filter(part -> !part.isEmpty());
    }

    /** The table of the calls has each call of the face with its arguments, and no other. */
    private static void calls(String readme) {
        Check.begin("README's calls");
        TreeSet<String> told = new TreeSet<>();
        for (String call : allOf("`(\\w+\\([\\w, ]*\\))`", readme)) {
            int start = call.indexOf('(');
            told.add(call.substring(0, start) + " " + parts(call.substring(start + 1, call.length() - 1)).count());
        }
        TreeSet<String> due = new TreeSet<>();
        for (Method method : CommitteeBallots.class.getDeclaredMethods()) {
            if (Modifier.isPublic(method.getModifiers())) {
                due.add(method.getName() + " " + method.getParameterCount());
            }
        }
        Check.holds("are " + due + ", told are " + told, told.equals(due));
    }

    /** The errors stand in the order in which they go ahead of one another. */
    private static void errors(String readme) throws ReflectiveOperationException {
        Check.begin("README's errors");
        List<String> errors = allOf("\\| `([A-Z_]+)` \\| -\\d \\|", readme);
        List<String> answers = allOf("\\| `[A-Z_]+` \\| (-\\d) \\|", readme);
        Check.holds("are four, in their order, not " + errors,
                errors.equals(List.of("INVALID_ARGUMENT", "NOT_POSSIBLE", "LIMIT_REACHED", "NOT_FOUND")));
        for (int place = 0; place < errors.size(); place++) {
            Field error = CommitteeBallots.class.getField(errors.get(place));
            Check.due(errors.get(place), error.getInt(null), Integer.parseInt(answers.get(place)));
        }
    }

    private static void tests(String readme) throws IOException {
        Check.begin("README's tests");
        try (Stream<Path> files = Files.list(TESTS)) {
            TreeSet<String> due = files.map(file -> file.getFileName().toString())
                    .filter(name -> name.endsWith("Test.java")).map(name -> name.replace(".java", ""))
                    .collect(Collectors.toCollection(TreeSet::new));
            TreeSet<String> told = new TreeSet<>(allOf("(?m)^\\| (\\w+Test) \\|", readme));
            Check.holds("are " + due + ", told are " + told, told.equals(due));
        }
        Check.holds("are run by sh .ci/run", readme.contains("    sh .ci/run\n"));
    }

    private static List<String> allOf(String pattern, String text) {
        return Pattern.compile(pattern).matcher(text).results().map((MatchResult found) -> found.group(1)).toList();
    }
}
