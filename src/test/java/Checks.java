/** Counts and prints every answer that is not the one that is due. */
final class Checks {
    /** A call on the program, which answers a number (a boolean counts 1 or 0) or throws. */
    interface Call {
        long answer();
    }

    private int made = 0;
    private int wrong = 0;

    void due(String call, long got, long want) {
        made++;
        if (got != want) {
            wrong++;
            System.out.println(call + " answered " + got + ", due is " + want);
        }
    }

    void due(String call, String got, String want) {
        made++;
        if (!got.equals(want)) {
            wrong++;
            System.out.println(call + " answered " + got + ", due is " + want);
        }
    }

    void refused(String call, Class<? extends RuntimeException> want, Call it) {
        due(call, outcome(it), "throws." + want.getSimpleName());
    }

    /** The answer as a text, or throws. and the exception's name. */
    static String outcome(Call it) {
        try {
            return Long.toString(it.answer());
        } catch (RuntimeException thrown) {
            return "throws." + thrown.getClass().getSimpleName();
        }
    }

    void end(String test) {
        System.out.println(test + ": " + made + " answers, " + wrong + " wrong");
        System.exit(wrong == 0 ? 0 : 1);
    }
}
