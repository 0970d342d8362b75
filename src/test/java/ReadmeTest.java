import java.io.IOException;
import java.lang.reflect.Method;
import java.nio.file.Files;
import java.nio.file.Path;
import java.util.HashMap;
import java.util.HashSet;
import java.util.List;
import java.util.Map;
import java.util.Set;
import java.util.regex.Matcher;
import java.util.regex.Pattern;

/** Makes the calls that README.md shows, and holds its answers against those of the class. */
public final class ReadmeTest {
    private static final Path README = Path.of("README.md");
    private static final Path TESTS = Path.of("src", "test", "java");
    private static final String NEW_DESK = "LayoutDesk desk = new LayoutDesk();";
    private static final Pattern CALL = Pattern.compile(
            "(?:int (\\w+) = )?desk\\.(\\w+)\\(([^)]*)\\);\\s+// (-?\\d+|true|false)(?:: .*)?");
    private static final Pattern PLACE = Pattern.compile("at place (\\d+)");
    private static final Pattern ROW = Pattern.compile("\\| (\\d+) +\\|[^|]+\\| (\\d+) +\\| (\\d+) +\\|");
    private static final Pattern TEST_NAME = Pattern.compile("\\b\\w+Test\\b");
    private static final Pattern NUMBER = Pattern.compile("-?\\d+");

    private final Check check;
    private final Set<String> shown = new HashSet<>();
    private final Map<String, Integer> names = new HashMap<>();
    private LayoutDesk desk;

    private ReadmeTest(Check check) {
        this.check = check;
    }

    public static void main(String[] args) throws IOException {
        List<String> lines = Files.readAllLines(README);
        Sentences sentences = new Sentences();
        sentences.test("README.md: what it shows of answers is what the class answers",
                check -> new ReadmeTest(check).answers(lines));
        sentences.test("README.md: .. and the types of its table are those of a new object",
                check -> table(check, lines));
        sentences.test("README.md: how to use the class: each call is shown",
                check -> new ReadmeTest(check).everyCall(lines));
        sentences.test("README.md: how to run its tests: what it names is there",
                check -> testsAreThere(check, String.join("\n", lines)));
        sentences.end();
    }

    private void answers(List<String> lines) {
        boolean isJava = false;
        for (String line : lines) {
            if (line.startsWith("```")) {
                isJava = line.equals("```java");
            } else if (isJava && !line.isEmpty()) {
                follow(line);
            }
        }
        check.due("a block of calls is found", shown.isEmpty(), false);
    }

    private void everyCall(List<String> lines) {
        answers(lines);
        for (Method method : Face.class.getDeclaredMethods()) {
            check.due(method.getName() + " is shown", shown.contains(method.getName()), true);
        }
    }

    private void follow(String line) {
        if (line.equals(NEW_DESK)) {
            desk = new LayoutDesk();
            names.clear();
            return;
        }
        Matcher call = CALL.matcher(line);
        if (desk == null || !call.matches()) {
            check.tell("no call with its answer: " + line);
            return;
        }
        Object answer = answer(call.group(2), call.group(3));
        if (!String.valueOf(answer).equals(call.group(4))) {
            check.tell(line + " - the class answers " + answer);
        }
        if (answer instanceof Integer number) {
            if (call.group(1) != null) {
                names.put(call.group(1), number);
            }
            place(line, call.group(3), number);
        }
        shown.add(call.group(2));
    }

    /** The words behind a new member's number tell its place. */
    private void place(String line, String list, int member) {
        Matcher told = PLACE.matcher(line);
        if (told.find() && value(list.split(", ")[0]) instanceof Integer record) {
            check.due(line + " - its place", desk.member(record, member, 0), Integer.parseInt(told.group(1)));
        }
    }

    private static void table(Check check, List<String> lines) {
        LayoutDesk desk = new LayoutDesk();
        int next = 0;
        for (String line : lines) {
            Matcher row = ROW.matcher(line);
            if (row.matches()) {
                check.due(line + " - its number", Integer.parseInt(row.group(1)), next);
                check.due(line + " - its size", desk.size(next), Integer.parseInt(row.group(2)));
                check.due(line + " - its alignment", desk.align(next), Integer.parseInt(row.group(3)));
                next++;
            }
        }
        check.due("rows", next, desk.types());
    }

    private Object answer(String name, String list) {
        String[] words = list.isEmpty() ? new String[0] : list.split(", ");
        Object[] values = new Object[words.length];
        for (int i = 0; i < words.length; i++) {
            values[i] = value(words[i]);
        }
        for (Method method : LayoutDesk.class.getMethods()) {
            if (method.getName().equals(name) && method.getParameterCount() == values.length) {
                try {
                    return method.invoke(desk, values);
                } catch (ReflectiveOperationException | IllegalArgumentException thrown) {
                    return thrown;
                }
            }
        }
        return "nothing, as it has no such call";
    }

    private Object value(String word) {
        if (NUMBER.matcher(word).matches()) {
            return Integer.valueOf(word);
        }
        if (word.equals("true") || word.equals("false")) {
            return Boolean.valueOf(word);
        }
        return names.get(word);
    }

    private static void testsAreThere(Check check, String text) {
        check.due("it names .ci/run", text.contains("`.ci/run`"), true);
        check.due(".ci/run can be run", Files.isExecutable(Path.of(".ci", "run")), true);
        Matcher name = TEST_NAME.matcher(text);
        int named = 0;
        while (name.find()) {
            named++;
            check.due(name.group() + " is there", Files.exists(TESTS.resolve(name.group() + ".java")), true);
        }
        check.due("it names tests", named > 0, true);
    }
}
