/** Counts answers that are not due; every test program ends with finish(). */
final class Checks {
    static final String NOTHING = "nothing";
    static final String INDEX = "IndexOutOfBoundsException";
    static final String ARGUMENT = "IllegalArgumentException";
    static final String STATE = "IllegalStateException";

    /** A call that may throw. */
    interface Call {
        void go();
    }

    private static int seen = 0;
    private static int wrong = 0;

    private Checks() {
    }

    static void due(String what, long got, long want) {
        seen++;
        if (got != want) {
            wrong++;
            System.out.println(what + " answered " + got + ", due is " + want);
        }
    }

    static void due(String what, boolean got, boolean want) {
        due(what, got ? 1 : 0, want ? 1 : 0);
    }

    static void dueText(String what, String got, String want) {
        seen++;
        if (!got.equals(want)) {
            wrong++;
            System.out.println(what + " is " + got + ", due is " + want);
        }
    }

    /** The exception has to be of that very class, not of one below it. */
    static void dueThrow(String what, String want, Call call) {
        String got = NOTHING;
        try {
            call.go();
        } catch (RuntimeException e) {
            got = e.getClass().getSimpleName();
        }
        dueText(what + ": what it throws", got, want);
    }

    static void finish() {
        System.out.println(seen + " answers looked at, " + wrong + " wrong");
        if (wrong != 0 || seen == 0) {
            System.exit(1);
        }
    }
}
