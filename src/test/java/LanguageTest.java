import java.io.IOException;
import java.lang.reflect.Field;
import java.lang.reflect.Method;
import java.lang.reflect.Modifier;
import java.nio.file.Files;
import java.nio.file.Path;
import java.util.ArrayDeque;
import java.util.ArrayList;
import java.util.List;
import java.util.regex.Matcher;
import java.util.regex.Pattern;

/** The rules of LANGUAGE.md that a change of the class could break without any answer getting wrong. */
public final class LanguageTest {
    private static final Path PROGRAM = Path.of("src/main/java/LinkedMarkers.java");
    private static final int MOST_LINES = 60;
    private static final int MOST_PARAMETERS = 7;
    private static final int MOST_CLASSES = 12;
    private static final int MOST_FIELDS = 20;

    // The rule's number, then what the code must not have.
    private static final String[][] RULED_OUT = {
        {"2", "->"}, {"2", "::"}, {"4", "\\bimport\\b"}, {"4", "\\bjava\\."}, {"4", "Exact\\("},
        {"3", "\\[\\]\\[\\]\\["}, {"3", "\\bObject\\b"}, {"5", "\\bstatic \\{"},
        {"6", "\\bfinally\\b"}, {"6", "\\bsynchronized\\b"}, {"6", "\\bassert\\b"}, {"6", "\\btry \\("},
        {"6", "getMessage"}, {"6", "hashCode"}, {"6", "extends \\w*Exception"},
        {"9", "while \\(true\\)"}, {"9", "for \\([^;]*;\\s*;"},
        {"13", "\\bSystem\\.(?!arraycopy)"}, {"13", "\\bMath\\.random\\b"}, {"13", "\\bThread\\b"}
    };
    private static final Pattern THROWN = Pattern.compile("\\bthrow\\b[^;]*;");
    private static final Pattern FINE_THROW = Pattern.compile(
            "throw new (IllegalState|IllegalArgument|IndexOutOfBounds)Exception\\(\\);");

    private final Check check = new Check();
    private final String code;

    private LanguageTest(String code) {
        this.code = code;
    }

    public static void main(String[] args) throws IOException {
        String text = Files.readString(PROGRAM);
        LanguageTest test = new LanguageTest(withoutComments(text));
        test.lookForWhatIsRuledOut();
        test.lookAtThrows();
        test.lookAtMethodLengths();
        test.lookAtClasses();
        test.check.dueTrue("rule 3: characters 0 to 255 alone", text.chars().allMatch(c -> c <= 255));
        test.check.end();
    }

    private static String withoutComments(String text) {
        return text.replaceAll("(?s)/\\*.*?\\*/", "").replaceAll("//[^\n]*", "");
    }

    private void lookForWhatIsRuledOut() {
        for (String[] rule : RULED_OUT) {
            check.dueTrue("rule " + rule[0] + ": nothing like " + rule[1],
                    !Pattern.compile(rule[1]).matcher(code).find());
        }
    }

    private void lookAtThrows() {
        Matcher thrown = THROWN.matcher(code);
        while (thrown.find()) {
            check.dueTrue("rule 6: " + thrown.group(), FINE_THROW.matcher(thrown.group()).matches());
        }
    }

    /** Every block but that of a class; a method's own is the longest of those inside it. */
    private void lookAtMethodLengths() {
        String[] lines = code.split("\n");
        ArrayDeque<Integer> open = new ArrayDeque<>();
        for (int at = 0; at < lines.length; at++) {
            for (char c : lines[at].toCharArray()) {
                if (c == '{') {
                    open.push(at);
                } else if (c == '}') {
                    int start = open.pop();
                    boolean isShort = at - start < MOST_LINES || lines[start].contains(" class ");
                    check.dueTrue("rule 11: short is" + lines[start], isShort);
                }
            }
        }
    }

    private void lookAtClasses() {
        List<Class<?>> classes = new ArrayList<>(List.of(LinkedMarkers.class.getDeclaredClasses()));
        classes.add(LinkedMarkers.class);
        check.dueTrue("rule 11: " + classes.size() + " classes", classes.size() <= MOST_CLASSES);
        for (Class<?> one : classes) {
            lookAtFields(one);
            for (Method method : one.getDeclaredMethods()) {
                check.dueTrue("rule 11: few parameters has " + method,
                        method.getParameterCount() <= MOST_PARAMETERS);
            }
        }
    }

    private void lookAtFields(Class<?> one) {
        int own = 0;
        for (Field field : one.getDeclaredFields()) {
            boolean isStatic = Modifier.isStatic(field.getModifiers());
            own += isStatic ? 0 : 1;
            check.dueTrue("rule 5: final is " + field, !isStatic || Modifier.isFinal(field.getModifiers()));
        }
        check.dueTrue("rule 11: " + own + " fields of " + one, own <= MOST_FIELDS);
    }
}
