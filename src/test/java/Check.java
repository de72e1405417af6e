/** What the tests share: a call with the answer, or the very exception, that is due. */
final class Check {
    interface Call {
        long answer();
    }

    private static int calls = 0;
    private static int wrong = 0;

    private Check() {
    }

    static void due(String what, long want, Call call) {
        report(what, String.valueOf(want), outcome(call));
    }

    static void throwing(String what, Class<? extends RuntimeException> want, Call call) {
        report(what, want.getName(), outcome(call));
    }

    /** The answer as a text, or the name of the exception's own class, not of one above it. */
    static String outcome(Call call) {
        try {
            return String.valueOf(call.answer());
        } catch (RuntimeException e) {
            return e.getClass().getName();
        }
    }

    static void report(String what, String want, String got) {
        calls++;
        if (!want.equals(got)) {
            wrong++;
            System.out.println(what + " answered " + got + ", due is " + want);
        }
    }

    static boolean allAsDue() {
        return wrong == 0;
    }

    static void end() {
        System.out.println(calls + " answers looked at, " + wrong + " not as due");
        if (wrong != 0) {
            System.exit(1);
        }
    }
}
