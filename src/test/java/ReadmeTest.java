import java.io.IOException;
import java.lang.reflect.InvocationTargetException;
import java.lang.reflect.Method;
import java.lang.reflect.Modifier;
import java.nio.charset.StandardCharsets;
import java.nio.file.Files;
import java.nio.file.Path;
import java.util.ArrayList;
import java.util.HashMap;
import java.util.List;
import java.util.Map;
import java.util.Set;
import java.util.TreeSet;
import java.util.regex.Matcher;
import java.util.regex.Pattern;
import java.util.stream.Collectors;
import java.util.stream.Stream;

/** What README.md says is so: its example is called line by line, and what it names is there. */
public final class ReadmeTest {
    private static final Path README = Path.of("README.md");
    private static final Path TESTS = Path.of("src/test/java");
    private static final String FENCE = "```";
    private static final String MAKING = "InkRing ring = new InkRing();";
    private static final Pattern LINE =
            Pattern.compile("(?:int (\\w+) = )?ring\\.(\\w+)\\(([^)]*)\\);(?:\\s+// ([^:]+): .+)?");
    private static final Pattern CALL_ROW = Pattern.compile("\\| `(\\w+)\\(([^)]*)\\)` \\| .+ \\|");
    private static final Pattern TEST_ROW = Pattern.compile("\\| `(\\w+Test)` \\| .+ \\|");
    private static final Pattern FILE = Pattern.compile("`((?:\\.\\./shared|src|\\.ci)(?:/[A-Za-z]\\w*(?:\\.\\w+)?)*)`");

    private final Check check = new Check("ReadmeTest");
    private final Map<String, Object> known = new HashMap<>(Map.of("true", true, "false", false));
    private final List<String> lines;
    private InkRing ring;

    private ReadmeTest(List<String> lines) {
        this.lines = lines;
    }

    public static void main(String[] args) throws IOException {
        ReadmeTest test = new ReadmeTest(Files.readAllLines(README, StandardCharsets.UTF_8));
        test.example();
        test.calls();
        test.tests();
        test.files();
        test.check.end();
    }

    private void example() {
        int from = lines.indexOf(FENCE + "java") + 1;
        int to = lines.lastIndexOf(FENCE);
        check.same("there is an example", true, from > 0 && to > from);
        if (from == 0 || to <= from) {
            return;
        }
        for (String line : lines.subList(from, to)) {
            if (line.equals(MAKING)) {
                ring = new InkRing();
            } else if (!line.isBlank() && !line.startsWith("//")) {
                exampleLine(line);
            }
        }
    }

    private void exampleLine(String line) {
        Matcher told = LINE.matcher(line);
        Method method = told.matches() ? methodOf(told.group(2)) : null;
        check.same(line + ": is a call that can be made", true, method != null && ring != null);
        if (method == null || ring == null) {
            return;
        }
        Object answer = answer(method, told.group(3));
        boolean tellsNothing = method.getReturnType() == void.class;
        check.same(line, tellsNothing ? null : told.group(4), tellsNothing ? answer : String.valueOf(answer));
        if (told.group(1) != null) {
            known.put(told.group(1), answer);
        }
    }

    /** As the comments of the example write it: an exception by its bare name. */
    private Object answer(Method method, String arguments) {
        try {
            return method.invoke(ring, valuesOf(wordsOf(arguments)));
        } catch (InvocationTargetException e) {
            return e.getCause().getClass().getSimpleName();
        } catch (IllegalAccessException | IllegalArgumentException e) {
            return "a call that can't be made";
        }
    }

    private Object[] valuesOf(String[] words) {
        Object[] values = new Object[words.length];
        for (int k = 0; k < words.length; k++) {
            values[k] = known.containsKey(words[k]) ? known.get(words[k]) : Integer.valueOf(words[k]);
        }
        return values;
    }

    private static String[] wordsOf(String arguments) {
        return arguments.isEmpty() ? new String[0] : arguments.split(", ");
    }

    private static Method methodOf(String name) {
        for (Method each : InkRing.class.getDeclaredMethods()) {
            if (each.getName().equals(name) && Modifier.isPublic(each.getModifiers())) {
                return each;
            }
        }
        return null;
    }

    private void calls() {
        Set<String> due = new TreeSet<>();
        for (Method each : InkRing.class.getDeclaredMethods()) {
            if (Modifier.isPublic(each.getModifiers())) {
                due.add(each.getName() + " with " + each.getParameterCount());
            }
        }
        Set<String> told = new TreeSet<>();
        for (Matcher row : rows(CALL_ROW)) {
            told.add(row.group(1) + " with " + wordsOf(row.group(2)).length);
        }
        check.same("the table of the calls", due, told);
    }

    private void tests() throws IOException {
        Set<String> due;
        try (Stream<Path> files = Files.list(TESTS)) {
            due = files.map(file -> file.getFileName().toString())
                    .filter(name -> name.endsWith("Test.java"))
                    .map(name -> name.replace(".java", ""))
                    .collect(Collectors.toCollection(TreeSet::new));
        }
        Set<String> told = new TreeSet<>();
        for (Matcher row : rows(TEST_ROW)) {
            told.add(row.group(1));
        }
        check.same("the table of the tests", due, told);
    }

    private List<Matcher> rows(Pattern pattern) {
        List<Matcher> found = new ArrayList<>();
        for (String line : lines) {
            Matcher row = pattern.matcher(line);
            if (row.matches()) {
                found.add(row);
            }
        }
        return found;
    }

    private void files() {
        int named = 0;
        Matcher file = FILE.matcher(String.join("\n", lines));
        while (file.find()) {
            check.same(file.group(1) + " is there", true, Files.exists(Path.of(file.group(1))));
            named++;
        }
        check.same("files are named", true, named > 0);
        check.same(".ci/run can be run", true, Files.isExecutable(Path.of(".ci/run")));
    }
}
