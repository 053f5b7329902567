/** Compares answers with those that are due, prints the wrong ones, and ends the test. */
final class Due {
    /** A call that may throw ArrayIndexOutOfBoundsException. */
    interface Call {
        Object answer();
    }

    /** What the two calls that may throw are due to throw. */
    static final String THROWS = "java.lang.ArrayIndexOutOfBoundsException";

    private static int asked = 0;
    private static int wrong = 0;
    private static String sentence = "";
    private static int askedBefore = 0;

    private Due() {
    }

    /** The words of the document that the answers behind it are about; each has answers of its own. */
    static void sentence(String section, String words) {
        endSentence();
        Document.quote(section, words);
        sentence = section + ", '" + words + "': ";
        askedBefore = asked;
    }

    static void endSentence() {
        if (!sentence.isEmpty() && asked == askedBefore) {
            wrong++;
            System.out.println("  " + sentence + "nothing was asked");
        }
        sentence = "";
    }

    static void same(String call, long due, long got) {
        compare(call, due, got);
    }

    static void yes(String call, boolean got) {
        compare(call, true, got);
    }

    static void no(String call, boolean got) {
        compare(call, false, got);
    }

    static void text(String call, String due, String got) {
        compare(call, due, got);
    }

    /** The class of the exception must be that very one, not one below or above it. */
    static void refuses(String call, Call tried) {
        compare(call, THROWS, answerOf(tried));
    }

    static Object answerOf(Call call) {
        try {
            return call.answer();
        } catch (RuntimeException thrown) {
            return thrown.getClass().getName();
        }
    }

    static void compare(String call, Object due, Object got) {
        asked++;
        if (!due.equals(got)) {
            wrong++;
            System.out.println("  " + sentence + call + " answered " + got + ", due is " + due);
        }
    }

    static void end() {
        System.out.println("  " + asked + " answers, " + wrong + " wrong");
        if (wrong != 0 || asked == 0) {
            System.exit(1);
        }
    }
}
