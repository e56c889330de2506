import java.io.IOException;
import java.lang.reflect.InvocationTargetException;
import java.lang.reflect.Method;
import java.lang.reflect.Modifier;
import java.nio.file.Files;
import java.nio.file.Path;
import java.util.ArrayList;
import java.util.Arrays;
import java.util.Collections;
import java.util.HashMap;
import java.util.List;
import java.util.Map;
import java.util.regex.Matcher;
import java.util.regex.Pattern;
import java.util.stream.Stream;

/** README.md tells what is so: its example's answers, all calls and all tests, in its tables. */
public final class ReadmeTest {
    private static final Path README = Path.of("README.md");
    private static final Path TESTS = Path.of("src/test/java");
    private static final Pattern CALL =
            Pattern.compile("(?:int (\\w+) = )?land\\.(\\w+)\\((.*)\\); +// ([^:]+)(?::.*)?");

    private final Map<String, Integer> numbers = new HashMap<>();
    private final HillBeacons land = new HillBeacons();

    public static void main(String[] args) throws Exception {
        new ReadmeTest().exampleAnswersSo();
        everyCallIsNamedOnce();
        everyTestIsNamedOnce();
        everyPathIsThere();
        Expect.end();
    }

    private void exampleAnswersSo() throws Exception {
        List<String> example = block("java");
        Expect.same("first line of the example", example.get(0),
                "HillBeacons land = new HillBeacons();");
        Expect.same("calls of the example", example.size() > 10, true);
        for (String line : example.subList(1, example.size())) {
            Matcher call = CALL.matcher(line);
            if (call.matches()) {
                Object answer = answer(call.group(2), call.group(3));
                Expect.same("README: " + line, String.valueOf(answer), call.group(4));
                if (call.group(1) != null) {
                    numbers.put(call.group(1), (Integer) answer);
                }
            } else {
                Expect.fail("README: no call with its answer: " + line);
            }
        }
    }

    private Object answer(String name, String written) throws Exception {
        List<Object> given = new ArrayList<>();
        for (String one : written.isEmpty() ? new String[0] : written.split(", ")) {
            given.add(numbers.containsKey(one) ? numbers.get(one) : Integer.valueOf(one));
        }
        Class<?>[] kinds = new Class<?>[given.size()];
        Arrays.fill(kinds, int.class);
        try {
            return HillBeacons.class.getMethod(name, kinds).invoke(land, given.toArray());
        } catch (InvocationTargetException e) {
            return e.getCause().getClass().getSimpleName();
        }
    }

    private static void everyCallIsNamedOnce() throws IOException {
        String rows = String.join("\n", rowsUnder("| calls |"));
        for (Method method : HillBeacons.class.getDeclaredMethods()) {
            if (Modifier.isPublic(method.getModifiers())) {
                String name = "`" + method.getName() + "`";
                Expect.same("README names " + name, rows.split(name, -1).length - 1, 1);
            }
        }
        Expect.same("calls in the README", rows.split("`").length / 2, 39);
    }

    private static void everyTestIsNamedOnce() throws IOException {
        List<String> rows = rowsUnder("| test |");
        int tests = 0;
        try (Stream<Path> files = Files.list(TESTS)) {
            for (Path file : (Iterable<Path>) files::iterator) {
                String name = file.getFileName().toString().replace(".java", "");
                if (name.endsWith("Test")) {
                    tests++;
                    String row = "| `" + name + "` |";
                    Expect.same("rows of the README for " + name,
                            Collections.frequency(rows, row), 1);
                }
            }
        }
        Expect.same("tests in the README", rows.size(), tests);
    }

    private static void everyPathIsThere() throws IOException {
        Matcher path = Pattern.compile("(?:src|\\.ci|\\.\\./shared)/[\\w/.]*\\w").matcher(
                Files.readString(README));
        int paths = 0;
        while (path.find()) {
            paths++;
            Expect.same(path.group() + ", named in the README, is there",
                    Files.exists(Path.of(path.group())), true);
        }
        Expect.same("the README names paths", paths > 5, true);
        Expect.same("a command of the README runs the tests",
                Files.readString(README).contains("\n```sh\n.ci/run\n```\n"), true);
        Expect.same("that one can be run", Files.isExecutable(Path.of(".ci/run")), true);
    }

    /** The lines of the first block of this kind. */
    private static List<String> block(String kind) throws IOException {
        List<String> lines = Files.readAllLines(README);
        int first = lines.indexOf("```" + kind) + 1;
        return lines.subList(first, first + lines.subList(first, lines.size()).indexOf("```"));
    }

    /** The rows of the table with this head, without what stands behind its first column. */
    private static List<String> rowsUnder(String head) throws IOException {
        List<String> rows = new ArrayList<>();
        boolean inTable = false;
        for (String line : Files.readAllLines(README)) {
            if (line.startsWith(head)) {
                inTable = true;
            } else if (!line.startsWith("|")) {
                inTable = false;
            } else if (inTable && !line.startsWith("|---")) {
                rows.add(line.substring(0, line.indexOf('|', 1) + 1));
            }
        }
        return rows;
    }
}
