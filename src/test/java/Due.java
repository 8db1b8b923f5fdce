/** Compares answers with those that are due, and counts what is wrong. */
final class Due {
    static final String OUT = "IndexOutOfBoundsException";
    static final String STATE = "IllegalStateException";
    static final String ARGUMENT = "IllegalArgumentException";

    interface Call {
        int answer();
    }

    private static int wrong = 0;
    private static int asked = 0;
    private static String sentence = "";

    private Due() {
    }

    /** The document's sentence that the answers from here on are about. */
    static void sentence(String text) {
        sentence = text;
    }

    /** The answer of a call as a text; the exception's plain name if it throws one. */
    static String of(Call call) {
        try {
            return String.valueOf(call.answer());
        } catch (RuntimeException e) {
            return e.getClass().getSimpleName();
        }
    }

    static void is(String what, Call call, String want) {
        compare("'" + sentence + "' " + what, of(call), want);
    }

    static void is(String what, Call call, int want) {
        is(what, call, String.valueOf(want));
    }

    static void is(int promise, String what, Call call, String want) {
        compare("promise " + promise + ": " + what, of(call), want);
    }

    static void is(int promise, String what, Call call, int want) {
        is(promise, what, call, String.valueOf(want));
    }

    static void compare(String what, String got, String want) {
        asked++;
        if (!got.equals(want)) {
            wrong++;
            System.out.println(what + " answered " + got + ", due is " + want);
        }
    }

    static int wrongSoFar() {
        return wrong;
    }

    static void end() {
        System.out.println(asked + " answers, " + wrong + " not as due");
        if (wrong != 0) {
            System.exit(1);
        }
    }
}
