import java.io.IOException;
import java.lang.reflect.Method;
import java.nio.charset.StandardCharsets;
import java.nio.file.Files;
import java.nio.file.Path;
import java.util.ArrayList;
import java.util.List;
import java.util.Set;
import java.util.TreeSet;
import java.util.regex.Matcher;
import java.util.regex.Pattern;
import java.util.stream.Collectors;
import java.util.stream.Stream;

/** README.md tells what is so: the answers of its example, each call of the face, each test of the project. */
public final class ReadmeTest {
    private static int wrong = 0;

    private static void must(boolean so, String what) {
        if (!so) {
            wrong++;
            System.out.println("README.md: " + what);
        }
    }

    public static void main(String[] args) throws IOException {
        String readme = Files.readString(Path.of("README.md"), StandardCharsets.UTF_8);
        Set<String> calls = callsOfTheTable(readme);
        must(calls.equals(callsOfTheFace()), "the table has " + calls + ", the face " + callsOfTheFace());
        Set<String> tests = found(readme, "(?m)^- `(\\w+Test)`|`(\\w+Test)` \\(promises|`(\\w+Test)` \\(\\d");
        must(tests.equals(testsOfTheProject()), "it lists " + tests + ", there are " + testsOfTheProject());
        must(readme.contains("`.ci/run`") && Files.isExecutable(Path.of(".ci/run")), "how to run the tests");
        if (wrong != 0) {
            System.exit(1);
        }
        example(readme);
    }

    /** Ends with 1 by itself if an answer is not as the example has it. */
    private static void example(String readme) {
        Script script = new Script();
        script.sentence("An object is used for at most 512 calls after it has been made");
        List<String> rows = new ArrayList<>();
        for (String line : block(readme).split("\n")) {
            Matcher text = Pattern.compile("for \\(char letter : \"([^\"]*)\"\\.toCharArray\\(\\)\\) \\{").matcher(line);
            Matcher call = Pattern.compile("x\\.(\\w+)\\(([-0-9, ]*)\\); +// (-?\\d+)[:,].*").matcher(line);
            if (text.matches()) {
                rows.add("say:" + text.group(1));
            } else if (call.matches()) {
                String numbers = call.group(2).replace(",", "");
                rows.add(call.group(1) + (numbers.isEmpty() ? "" : " ") + numbers + " = " + call.group(3));
            } else {
                must(line.matches("StaleBounds x = new .*|    x\\.type\\(letter\\);|}"), "not looked at: " + line);
            }
        }
        must(rows.size() > 10, "an example of use");
        script.run(rows.toArray(new String[0]));
        if (wrong != 0) {
            System.exit(1);
        }
        script.end();
    }

    private static String block(String readme) {
        Matcher java = Pattern.compile("(?s)```java\n(.*?)```").matcher(readme);
        return java.find() ? java.group(1) : "";
    }

    private static Set<String> callsOfTheTable(String readme) {
        Set<String> calls = new TreeSet<>();
        Matcher row = Pattern.compile("(?m)^\\| `(\\w+)\\(([^)]*)\\)` \\|").matcher(readme);
        while (row.find()) {
            int numbers = row.group(2).isEmpty() ? 0 : row.group(2).split(",").length;
            must(calls.add(row.group(1) + " " + numbers), row.group(1) + " stands twice");
        }
        return calls;
    }

    private static Set<String> callsOfTheFace() {
        Set<String> calls = new TreeSet<>();
        for (Method m : StaleBounds.class.getMethods()) {
            if (m.getDeclaringClass() == StaleBounds.class) {
                calls.add(m.getName() + " " + m.getParameterCount());
            }
        }
        return calls;
    }

    private static Set<String> found(String readme, String pattern) {
        Set<String> all = new TreeSet<>();
        Matcher m = Pattern.compile(pattern).matcher(readme);
        while (m.find()) {
            for (int i = 1; i <= m.groupCount(); i++) {
                if (m.group(i) != null) {
                    all.add(m.group(i));
                }
            }
        }
        return all;
    }

    private static Set<String> testsOfTheProject() throws IOException {
        try (Stream<Path> files = Files.list(Path.of("src/test/java"))) {
            return files.map(f -> f.getFileName().toString()).filter(f -> f.endsWith("Test.java"))
                    .map(f -> f.substring(0, f.length() - ".java".length())).collect(Collectors.toCollection(TreeSet::new));
        }
    }
}
