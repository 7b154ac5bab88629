import java.lang.reflect.InvocationTargetException;
import java.lang.reflect.Method;

/** The program and the reference, asked the same call each: their answers must be the same. */
final class Pair {
    final LinkedMarkers program = new LinkedMarkers();
    final Reference reference = new Reference();
    private final Check check;
    private final StringBuilder calls = new StringBuilder();

    Pair(Check check) {
        this.check = check;
    }

    String ask(String name, int... args) {
        calls.append(' ').append(name).append(java.util.Arrays.toString(args));
        String want = answer(reference, name, args);
        check.due(calls.toString(), answer(program, name, args), want);
        return want;
    }

    void askForPage() {
        ask("joint");
        ask("length");
        check.due(calls + " page", Check.page(program), referencePage());
    }

    private String referencePage() {
        StringBuilder text = new StringBuilder();
        for (int p = 0; p < reference.length(); p++) {
            text.append(reference.charAt(p));
        }
        return text.toString();
    }

    static String answer(Object object, String name, int[] args) {
        Class<?>[] types = new Class<?>[args.length];
        Object[] values = new Object[args.length];
        for (int i = 0; i < args.length; i++) {
            types[i] = int.class;
            values[i] = args[i];
        }
        try {
            Method method = object.getClass().getMethod(name, types);
            return String.valueOf(method.invoke(object, values));
        } catch (InvocationTargetException e) {
            return e.getCause().getClass().getSimpleName();
        } catch (NoSuchMethodException | IllegalAccessException e) {
            throw new IllegalStateException(e);
        }
    }
}
