/** Compares answers with those that are due, and ends a test with exit code 1 if one was wrong. */
final class Check {
    interface Call {
        void make();
    }

    static final Class<?> ARGUMENT = IllegalArgumentException.class;
    static final Class<?> STATE = IllegalStateException.class;
    static final Class<?> INDEX = IndexOutOfBoundsException.class;

    private int wrong = 0;
    private int made = 0;

    void due(String what, long got, long want) {
        tell(what, got == want, "answered " + got, "due is " + want);
    }

    void due(String what, boolean got, boolean want) {
        tell(what, got == want, "answered " + got, "due is " + want);
    }

    void due(String what, String got, String want) {
        tell(what, got.equals(want), "answered " + got, "due is " + want);
    }

    void refused(String what, Class<?> want, Call call) {
        Class<?> got = null;
        try {
            call.make();
        } catch (RuntimeException e) {
            got = e.getClass();
        }
        tell(what, got == want, "threw " + got, "due is " + want);
    }

    private void tell(String what, boolean right, String got, String want) {
        made++;
        if (!right) {
            wrong++;
            System.out.println(what + " " + got + ", " + want);
        }
    }

    void finish() {
        System.out.println(made + " answers looked at, " + wrong + " of them wrong");
        if (wrong != 0 || made == 0) {
            System.exit(1);
        }
    }
}
