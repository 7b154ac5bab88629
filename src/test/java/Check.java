/** Counts the answers that are not as due, and ends a test by them. */
final class Check {
    /** A call that may throw. */
    interface Call {
        void run();
    }

    private int asked = 0;
    private int wrong = 0;

    void due(String call, long got, long want) {
        asked++;
        if (got != want) {
            wrong++;
            System.out.println(call + " answered " + got + ", due is " + want);
        }
    }

    void due(String call, String got, String want) {
        asked++;
        if (!got.equals(want)) {
            wrong++;
            System.out.println(call + " answered " + got + ", due is " + want);
        }
    }

    void dueTrue(String what, boolean holds) {
        asked++;
        if (!holds) {
            wrong++;
            System.out.println("does not hold: " + what);
        }
    }

    /** The call throws an exception of just this class. */
    void dueThrow(String call, Class<? extends RuntimeException> want, Call toTry) {
        due(call + " throws", thrownBy(toTry), want.getSimpleName());
    }

    void dueOutOfBounds(String call, Call toTry) {
        dueThrow(call, IndexOutOfBoundsException.class, toTry);
    }

    void dueBadArgument(String call, Call toTry) {
        dueThrow(call, IllegalArgumentException.class, toTry);
    }

    void dueBadState(String call, Call toTry) {
        dueThrow(call, IllegalStateException.class, toTry);
    }

    static String thrownBy(Call toTry) {
        try {
            toTry.run();
            return "nothing";
        } catch (RuntimeException e) {
            return e.getClass().getSimpleName();
        }
    }

    /** What the page says, by length and charAt. */
    static String page(LinkedMarkers x) {
        StringBuilder text = new StringBuilder();
        for (int p = 0; p < x.length(); p++) {
            text.append(x.charAt(p));
        }
        return text.toString();
    }

    /** JOINT as the page tells it. */
    static String jointOf(LinkedMarkers x) {
        x.joint();
        return page(x);
    }

    /** Something was asked, and nothing was wrong. */
    boolean isFine() {
        return asked > 0 && wrong == 0;
    }

    void end() {
        System.out.println(asked + " answers asked, " + wrong + " wrong");
        if (!isFine()) {
            System.exit(1);
        }
    }
}
