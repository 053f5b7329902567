/** Compares answers with those that are due, prints the wrong ones, and ends the test. */
final class Due {
    /** A call that may throw ArrayIndexOutOfBoundsException. */
    interface Call {
        Object answer();
    }

    private static int asked = 0;
    private static int wrong = 0;

    private Due() {
    }

    static void same(String call, long due, long got) {
        compare(call, due, got);
    }

    static void yes(String call, boolean got) {
        compare(call, true, got);
    }

    static void no(String call, boolean got) {
        compare(call, false, got);
    }

    static void text(String call, String due, String got) {
        compare(call, due, got);
    }

    /** The class of the exception must be that very one, not one below or above it. */
    static void refuses(String call, Call tried) {
        Object got;
        try {
            got = tried.answer();
        } catch (RuntimeException thrown) {
            got = thrown.getClass().getName();
        }
        compare(call, "java.lang.ArrayIndexOutOfBoundsException", got);
    }

    static void compare(String call, Object due, Object got) {
        asked++;
        if (!due.equals(got)) {
            wrong++;
            System.out.println("  " + call + " answered " + got + ", due is " + due);
        }
    }

    static void end() {
        System.out.println("  " + asked + " answers, " + wrong + " wrong");
        if (wrong != 0 || asked == 0) {
            System.exit(1);
        }
    }
}
