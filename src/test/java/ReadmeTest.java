import java.io.IOException;
import java.lang.reflect.Method;
import java.nio.file.Files;
import java.nio.file.Path;
import java.util.HashMap;
import java.util.List;
import java.util.Map;
import java.util.regex.Matcher;
import java.util.regex.Pattern;

/** README.md says how the class is used: its example is run line by line, its table must have every call. */
public final class ReadmeTest {
    private static final Path README = Path.of("README.md");
    private static final Pattern CALL =
            Pattern.compile("(?:int (\\w+) = )?x\\.(\\w+)\\(([^)]*)\\);\\s*(?://\\s*(.*))?");
    private static final Pattern ANSWER = Pattern.compile("^'?(-?\\d+|true|false)\\b.*");

    private final Check check = new Check();
    private final LinkedMarkers x = new LinkedMarkers();
    private final Map<String, Integer> named = new HashMap<>();
    private final List<String> lines;

    private ReadmeTest(List<String> lines) {
        this.lines = lines;
    }

    public static void main(String[] args) throws IOException {
        ReadmeTest test = new ReadmeTest(Files.readAllLines(README));
        test.runExample();
        test.lookForCalls();
        test.lookForTests();
        test.check.end();
    }

    private void runExample() {
        int start = lines.indexOf("```java");
        check.dueTrue("there is an example", start >= 0);
        check.due("it begins", lines.get(start + 1), "LinkedMarkers x = new LinkedMarkers();");
        for (int at = start + 2; !lines.get(at).equals("```"); at++) {
            if (!lines.get(at).isBlank()) {
                runLine(lines.get(at));
            }
        }
    }

    private void runLine(String line) {
        Matcher call = CALL.matcher(line);
        boolean isCall = call.matches();
        check.dueTrue("it is a call: " + line, isCall);
        if (isCall) {
            String answer = Pair.answer(x, call.group(2), arguments(call.group(3)));
            check.due(line, answer, dueAnswer(call.group(4)));
            if (call.group(1) != null) {
                named.put(call.group(1), Integer.valueOf(answer));
            }
        }
    }

    private int[] arguments(String text) {
        if (text.isBlank()) {
            return new int[0];
        }
        String[] parts = text.split(",\\s*");
        int[] values = new int[parts.length];
        for (int i = 0; i < parts.length; i++) {
            Integer value = named.get(parts[i]);
            values[i] = value != null ? value : Integer.parseInt(parts[i]);
        }
        return values;
    }

    /** A call without an answer is invoked as one that answers null. */
    private static String dueAnswer(String comment) {
        Matcher answer = ANSWER.matcher(comment == null ? "" : comment);
        return answer.matches() ? answer.group(1) : "null";
    }

    private void lookForCalls() {
        String text = String.join("\n", lines);
        for (Method method : LinkedMarkers.class.getDeclaredMethods()) {
            if (java.lang.reflect.Modifier.isPublic(method.getModifiers())) {
                check.dueTrue("the table has " + method.getName(), text.contains("`" + method.getName() + "("));
                check.dueTrue("the example has " + method.getName(), text.contains("x." + method.getName() + "("));
            }
        }
    }

    private void lookForTests() {
        check.dueTrue("it says how the tests are run", String.join("\n", lines).contains("`bash .ci/run`"));
    }
}
