import java.io.IOException;
import java.lang.reflect.Method;
import java.nio.file.Files;
import java.nio.file.Path;
import java.util.ArrayList;
import java.util.List;
import java.util.Set;
import java.util.TreeSet;
import java.util.regex.Matcher;
import java.util.regex.Pattern;

/** Makes the calls that README.md shows and compares the answers that it tells behind them. */
public final class ReadmeTest {
    private static final Pattern CALL =
            Pattern.compile("ministry\\.(\\w+)\\((.*)\\);\\s*// ([\\w.]+)(: .*)?");
    private static final Pattern TYPED =
            Pattern.compile("for \\(char sign : \"(.*)\"\\.toCharArray\\(\\)\\) \\{");
    private static final List<String> PASSED_OVER =
            List.of("WeatherMinistry ministry = new WeatherMinistry();", "ministry.append(sign);", "}");
    private static final Set<String> CONSTANTS =
            Set.of("NONE", "BAD", "STATE", "FULL", "REFUSED", "NOTHING");
    private static int calls = 0;
    private static int wrong = 0;

    private ReadmeTest() {
    }

    public static void main(String[] args) throws IOException, ReflectiveOperationException {
        WeatherMinistry ministry = null;
        List<String> lines = Files.readAllLines(Path.of("README.md"));
        for (int i = 0; i < lines.size(); i++) {
            String line = lines.get(i).trim();
            if (line.equals("```java")) {
                ministry = new WeatherMinistry();
            } else if (line.equals("```")) {
                ministry = null;
            } else if (ministry != null) {
                follow(ministry, line, i + 1);
            }
        }
        check(calls > 0, "README.md shows no call");
        commands(lines);
        tests(lines);
        System.out.println(calls + " calls of README.md, " + wrong + " faults");
        if (wrong > 0) {
            System.exit(1);
        }
    }

    private static void check(boolean isDue, String text) {
        if (!isDue) {
            wrong++;
            System.out.println("not as due: " + text);
        }
    }

    private static void follow(WeatherMinistry ministry, String line, int number)
            throws ReflectiveOperationException {
        Matcher call = CALL.matcher(line);
        Matcher typed = TYPED.matcher(line);
        if (call.matches()) {
            calls++;
            String want = call.group(3);
            String got = answer(ministry, call.group(1), call.group(2));
            check(got.equals(meant(want)), "line " + number + " tells " + want + ", answered " + got);
        } else if (typed.matches()) {
            for (char sign : typed.group(1).toCharArray()) {
                ministry.append(sign);
            }
        } else {
            check(PASSED_OVER.contains(line), "line " + number + " is no call: " + line);
        }
    }

    private static String meant(String want) throws ReflectiveOperationException {
        return CONSTANTS.contains(want)
                ? String.valueOf(WeatherMinistry.class.getField(want).getInt(null)) : want;
    }

    private static String answer(WeatherMinistry ministry, String name, String inputs)
            throws ReflectiveOperationException {
        for (Method method : WeatherMinistry.class.getMethods()) {
            if (method.getName().equals(name) && method.getDeclaringClass() == WeatherMinistry.class) {
                return String.valueOf(method.invoke(ministry, values(inputs)));
            }
        }
        return "nothing, for there is no such method";
    }

    private static Object[] values(String inputs) {
        List<Object> values = new ArrayList<>();
        for (String input : inputs.isEmpty() ? new String[0] : inputs.split(", ")) {
            boolean isTruth = input.equals("true") || input.equals("false");
            values.add(isTruth ? (Object) Boolean.valueOf(input) : (Object) Integer.valueOf(input));
        }
        return values.toArray();
    }

    /** The tests can be run as the page says. */
    private static void commands(List<String> lines) {
        check(lines.contains("    bash .ci/run"), "README.md says how the tests are run");
        check(Files.isExecutable(Path.of(".ci/run")), ".ci/run can be run");
    }

    /** The page names each test that there is, and no other one. */
    private static void tests(List<String> lines) throws IOException {
        Set<String> named = new TreeSet<>();
        Matcher names = Pattern.compile("`(?:src/test/java/)?(\\w+Test)\\.java`")
                .matcher(String.join("\n", lines));
        while (names.find()) {
            named.add(names.group(1) + ".java");
        }
        Set<String> there = new TreeSet<>();
        try (var files = Files.newDirectoryStream(Path.of("src/test/java"), "*Test.java")) {
            files.forEach(file -> there.add(file.getFileName().toString()));
        }
        check(named.equals(there), "README.md names " + named + ", there are " + there);
    }
}
