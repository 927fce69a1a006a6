import java.io.IOException;
import java.io.UncheckedIOException;
import java.lang.reflect.Method;
import java.lang.reflect.Modifier;
import java.nio.file.Files;
import java.nio.file.Path;
import java.util.Locale;
import java.util.Set;
import java.util.TreeSet;
import java.util.regex.Matcher;
import java.util.regex.Pattern;
import java.util.stream.Stream;

/** README.md: each row of its example answers what stands behind it, and no call and no test is left out. */
final class ReadmeTest {
    private static final Pattern EXAMPLE = Pattern.compile("(?s)```java\n(.*?)```");
    private static final Pattern ROW = Pattern.compile("x\\.(\\w+)\\(([^)]*)\\);\\s+// (-?\\d+|[A-Z]+)\\b.*");

    private ReadmeTest() {
    }

    public static void main(String[] args) throws IOException {
        Check check = new Check("ReadmeTest");
        String page = Files.readString(Path.of("README.md"));
        Matcher example = EXAMPLE.matcher(page);
        check.holds("there is an example", example.find());
        Set<String> called = runExample(check, example.group(1));
        for (Method method : MoreEven.class.getDeclaredMethods()) {
            if (Modifier.isPublic(method.getModifiers())) {
                check.holds("the example calls " + method.getName(), called.contains(method.getName()));
            }
        }
        for (String test : testNames()) {
            check.holds("the table has " + test, page.contains("| `" + test + "` |"));
        }
        check.holds("it says how to run the tests", page.contains("```sh\n.ci/run\n```"));
        check.end();
    }

    /** Runs the rows on one object; the names of the calls among them. */
    private static Set<String> runExample(Check check, String rows) {
        Set<String> called = new TreeSet<>();
        MoreEven x = new MoreEven();
        for (String row : rows.split("\n")) {
            Matcher parts = ROW.matcher(row);
            if (parts.matches()) {
                called.add(parts.group(1));
                check.due(row, answer(x, parts.group(1), parts.group(2)), due(parts.group(3)));
            } else {
                check.holds(row + " is a call with its answer, or no call", !row.startsWith("x."));
            }
        }
        return called;
    }

    private static long answer(MoreEven x, String name, String told) {
        String[] words = told.isEmpty() ? new String[0] : told.split(", ");
        int[] numbers = new int[words.length];
        for (int i = 0; i < words.length; i++) {
            numbers[i] = switch (words[i]) {
                case "true" -> 1;
                case "false" -> 0;
                default -> Integer.parseInt(words[i]);
            };
        }
        return Call.valueOf(name.toUpperCase(Locale.ROOT)).on(x, numbers);
    }

    private static long due(String word) {
        return switch (word) {
            case "UNKNOWN" -> MoreEven.UNKNOWN;
            case "OUTSIDE" -> MoreEven.OUTSIDE;
            case "STATE" -> MoreEven.STATE;
            case "FULL" -> MoreEven.FULL;
            case "NONE" -> MoreEven.NONE;
            default -> Long.parseLong(word);
        };
    }

    private static Set<String> testNames() {
        try (Stream<Path> files = Files.list(Path.of("src/test/java"))) {
            Set<String> names = new TreeSet<>();
            files.map(file -> file.getFileName().toString()).filter(name -> name.endsWith("Test.java"))
                .forEach(name -> names.add(name.substring(0, name.length() - ".java".length())));
            return names;
        } catch (IOException problem) {
            throw new UncheckedIOException(problem);
        }
    }
}
