import java.io.IOException;
import java.lang.reflect.Method;
import java.lang.reflect.Modifier;
import java.nio.file.Files;
import java.nio.file.Path;
import java.util.HashMap;
import java.util.HashSet;
import java.util.List;
import java.util.Map;
import java.util.Set;
import java.util.regex.Matcher;
import java.util.regex.Pattern;
import java.util.stream.Collectors;
import java.util.stream.Stream;

/** README.md tells calls with their answers, and names the tests: both are held to what there is. */
public final class ReadmeTest {
    private static final Check CHECK = new Check("ReadmeTest");
    private static final Path TESTS = Path.of("src/test/java");
    private static final String NEW_OBJECT = "OtherNames x = new OtherNames();";
    private static final Pattern CALL =
            Pattern.compile("(?:int (\\w+) = )?x\\.(\\w+)\\(([^)]*)\\);\\s*// (-?\\d+|true|false)(?::.*)?");
    private static final Pattern TEST_NAMED = Pattern.compile("`(\\w+Test)?(?:\\.(\\w+)(\\.\\.\\.)?)?`");

    public static void main(String[] args) throws IOException {
        List<String> lines = Files.readAllLines(Path.of("README.md"));
        Set<String> called = theAnswersAreAsTold(lines);
        everyMethodIsShown(called);
        everyTestIsNamed(lines);
        theTestsNamedAreThere(lines);
        CHECK.end();
    }

    private static Set<String> theAnswersAreAsTold(List<String> lines) {
        Set<String> called = new HashSet<>();
        Map<String, Integer> variables = new HashMap<>();
        OtherNames x = null;
        boolean inJava = false;
        for (String line : lines) {
            if (line.startsWith("```")) {
                inJava = line.equals("```java");
            } else if (inJava && line.equals(NEW_OBJECT)) {
                x = new OtherNames();
                variables.clear();
            } else if (inJava) {
                Matcher call = CALL.matcher(line);
                CHECK.due("a call with its answer: " + line, call.matches() && x != null, true);
                if (call.matches() && x != null) {
                    int got = Calls.on(x, call.group(2), numbers(call.group(3), variables));
                    CHECK.due(line, got, number(call.group(4), variables));
                    variables.put(call.group(1), got);
                    called.add(call.group(2));
                }
            }
        }
        return called;
    }

    private static void everyMethodIsShown(Set<String> called) {
        for (Method method : OtherNames.class.getDeclaredMethods()) {
            if (Modifier.isPublic(method.getModifiers())) {
                CHECK.due(method.getName() + " is shown", called.contains(method.getName()), true);
            }
        }
    }

    private static void everyTestIsNamed(List<String> lines) throws IOException {
        String table = lines.stream().filter(line -> line.startsWith("| `")).collect(Collectors.joining("\n"));
        try (Stream<Path> files = Files.list(TESTS)) {
            files.map(file -> file.getFileName().toString())
                    .filter(file -> file.endsWith("Test.java"))
                    .map(file -> file.replace(".java", ""))
                    .forEach(test -> CHECK.due(test + " is named", table.contains("| `" + test + "` |"), true));
        }
    }

    private static void theTestsNamedAreThere(List<String> lines) throws IOException {
        int named = 0;
        for (String line : lines) {
            String test = null;
            Matcher matcher = TEST_NAMED.matcher(line);
            while (line.startsWith("|") && matcher.find()) {
                test = matcher.group(1) != null ? matcher.group(1) : test;
                CHECK.due(matcher.group() + " is there", isThere(test, matcher.group(2), matcher.group(3) == null), true);
                named++;
            }
        }
        CHECK.due("tests are named", named > 0, true);
    }

    private static boolean isThere(String test, String method, boolean whole) throws IOException {
        Path file = TESTS.resolve(test + ".java");
        if (test == null || !Files.exists(file)) {
            return false;
        }
        return method == null || Files.readString(file).contains(" void " + method + (whole ? "(" : ""));
    }

    private static int[] numbers(String told, Map<String, Integer> variables) {
        return Stream.of(told.split(", ")).mapToInt(each -> number(each, variables)).toArray();
    }

    private static int number(String told, Map<String, Integer> variables) {
        if (told.equals("true") || told.equals("false")) {
            return told.equals("true") ? 1 : 0;
        }
        return variables.containsKey(told) ? variables.get(told) : Integer.parseInt(told);
    }
}
