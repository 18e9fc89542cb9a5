/** Counts the answers that are not as due, and names each of them. */
final class Check {
    /** A call of which only the answer or the exception matters. */
    interface Call {
        long answer();
    }

    private static int wrong = 0;
    private static int asked = 0;

    private Check() {
    }

    static void due(String call, long want, Call made) {
        said(call, Long.toString(want), outcome(made));
    }

    static void refused(String call, Class<? extends RuntimeException> want, Call made) {
        said(call, "throws " + want.getName(), outcome(made));
    }

    static void same(String call, Call want, Call made) {
        said(call, outcome(want), outcome(made));
    }

    static void said(String call, String want, String got) {
        asked++;
        if (!got.equals(want)) {
            wrong++;
            System.out.println(call + ": answered " + got + ", due is " + want);
        }
    }

    static int wrong() {
        return wrong;
    }

    static void end() {
        System.out.println(asked + " answers, " + wrong + " not as due");
        if (wrong != 0) {
            System.exit(1);
        }
    }

    static String outcome(Call made) {
        try {
            return Long.toString(made.answer());
        } catch (RuntimeException e) {
            return "throws " + e.getClass().getName();
        }
    }
}
