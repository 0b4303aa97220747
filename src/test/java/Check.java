/** Compares answers with those that are due, and ends a test with exit code 1 if one was wrong. */
final class Check {
    static final Class<?> INDEX = IndexOutOfBoundsException.class;
    static final Class<?> ARGUMENT = IllegalArgumentException.class;
    static final Class<?> STATE = IllegalStateException.class;

    /** A call of the program. */
    interface Call {
        void make();
    }

    private static int wrong = 0;
    private static int done = 0;

    private Check() {
    }

    static void same(String what, Object got, Object due) {
        done++;
        if (!due.equals(got)) {
            wrong++;
            System.out.println(what + ": answered " + got + ", due is " + due);
        }
    }

    static void same(String what, long got, long due) {
        same(what, Long.valueOf(got), Long.valueOf(due));
    }

    static void fails(String what, Class<?> due, Call call) {
        Class<?> got = null;
        try {
            call.make();
        } catch (RuntimeException e) {
            got = e.getClass();
        }
        same(what, got == null ? "no exception" : got.getName(), due.getName());
    }

    static int wrongSoFar() {
        return wrong;
    }

    static void end() {
        System.out.println(done + " answers, " + wrong + " of them wrong");
        if (wrong != 0) {
            System.exit(1);
        }
    }
}
