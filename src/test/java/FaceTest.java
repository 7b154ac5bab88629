import java.lang.reflect.Constructor;
import java.lang.reflect.Field;
import java.lang.reflect.Method;
import java.lang.reflect.Modifier;
import java.util.ArrayList;
import java.util.Arrays;
import java.util.List;
import java.util.TreeSet;

/** The public face is the document's and nothing more (LANGUAGE.md, rule 1). */
public final class FaceTest {
    private static final String INDEX = "IndexOutOfBoundsException";
    private static final String ARGUMENT = "IllegalArgumentException";
    private static final String STATE = "IllegalStateException";

    private static final List<String> METHODS = List.of(
            "int founder() " + List.of(STATE),
            "int child(int, int) " + List.of(INDEX, STATE),
            "int marker(int, int, int) " + List.of(ARGUMENT, STATE),
            "int rate(int, int) " + List.of(INDEX, ARGUMENT),
            "void see(int, int, int, int) " + List.of(INDEX, ARGUMENT),
            "boolean unsee(int, int) " + List.of(INDEX),
            "int count(int) " + List.of(),
            "int origin(int, int, int) " + List.of(INDEX),
            "int fit(int, int) " + List.of(INDEX),
            "int joint() " + List.of(STATE),
            "int odds(int) " + List.of(ARGUMENT, STATE),
            "int would(int, int) " + List.of(INDEX, ARGUMENT),
            "int best(int) " + List.of(INDEX),
            "int turned(int, int) " + List.of(INDEX),
            "int shared(int, int, int) " + List.of(INDEX),
            "int likely(int) " + List.of(INDEX),
            "int length() " + List.of(),
            "char charAt(int) " + List.of());

    public static void main(String[] args) {
        Check check = new Check();
        Class<?> face = LinkedMarkers.class;
        check.dueTrue("the class is public and final",
                Modifier.isPublic(face.getModifiers()) && Modifier.isFinal(face.getModifiers()));
        methods(check, face);
        fields(check, face);
        constructors(check, face);
        classesInside(check, face);
        check.end();
    }

    private static void methods(Check check, Class<?> face) {
        TreeSet<String> open = new TreeSet<>();
        TreeSet<String> openNames = new TreeSet<>();
        for (Method method : face.getDeclaredMethods()) {
            if (!Modifier.isPrivate(method.getModifiers())) {
                check.dueTrue(method + " is public", Modifier.isPublic(method.getModifiers()));
                open.add(signature(method));
                openNames.add(method.getName());
            }
        }
        check.due("the public methods", open.toString(), new TreeSet<>(METHODS).toString());
        noPrivateNamesake(check, face, openNames);
        for (Class<?> inside : face.getDeclaredClasses()) {
            noPrivateNamesake(check, inside, openNames);
        }
    }

    private static void noPrivateNamesake(Check check, Class<?> inside, TreeSet<String> openNames) {
        for (Method method : inside.getDeclaredMethods()) {
            boolean open = Modifier.isPublic(method.getModifiers());
            check.dueTrue(method + " bears a name of its own", open || !openNames.contains(method.getName()));
        }
    }

    private static String signature(Method method) {
        String types = Arrays.toString(method.getParameterTypes());
        List<String> thrown = new ArrayList<>();
        for (Class<?> exception : method.getExceptionTypes()) {
            thrown.add(exception.getSimpleName());
        }
        return method.getReturnType() + " " + method.getName()
                + "(" + types.substring(1, types.length() - 1) + ") " + thrown;
    }

    private static void fields(Check check, Class<?> face) {
        TreeSet<String> open = new TreeSet<>();
        for (Field field : face.getDeclaredFields()) {
            int modifiers = field.getModifiers();
            check.dueTrue(field + " is no static state", !Modifier.isStatic(modifiers) || Modifier.isFinal(modifiers));
            if (!Modifier.isPrivate(modifiers)) {
                open.add(Modifier.toString(modifiers) + " " + field.getType() + " " + field.getName());
            }
        }
        check.due("the public constants", open.toString(), "[public static final int NONE]");
        check.due("NONE", LinkedMarkers.NONE, -1);
    }

    private static void constructors(Check check, Class<?> face) {
        Constructor<?>[] all = face.getDeclaredConstructors();
        check.due("how many constructors there are", all.length, 1);
        check.dueTrue("it is public", Modifier.isPublic(all[0].getModifiers()));
        check.due("how many parameters it takes", all[0].getParameterCount(), 0);
    }

    private static void classesInside(Check check, Class<?> face) {
        for (Class<?> inside : face.getDeclaredClasses()) {
            int modifiers = inside.getModifiers();
            check.dueTrue(inside + " is static", Modifier.isStatic(modifiers));
            check.dueTrue(inside + " is not open",
                    !Modifier.isPublic(modifiers) && !Modifier.isProtected(modifiers));
        }
    }
}
