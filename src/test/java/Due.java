/** Counts the calls of a test whose answer is not the one that is due, and tells them. */
final class Due {
    private final String test;
    private int wrong = 0;
    private int seen = 0;

    Due(String test) {
        this.test = test;
    }

    void is(String call, long got, long want) {
        seen++;
        if (got != want) {
            wrong++;
            System.out.println(test + ": " + call + " answered " + got + ", due is " + want);
        }
    }

    void holds(String what, boolean held) {
        seen++;
        if (!held) {
            wrong++;
            System.out.println(test + ": " + what + " does not hold");
        }
    }

    /** Calls that all answer the same. */
    void each(String what, long want, long... got) {
        for (int i = 0; i < got.length; i++) {
            is(what + ", call " + (i + 1), got[i], want);
        }
    }

    /** Calls that answer one thing after the other. */
    void row(String what, long[] want, long... got) {
        is(what + ", how many", got.length, want.length);
        for (int i = 0; i < Math.min(got.length, want.length); i++) {
            is(what + ", call " + (i + 1), got[i], want[i]);
        }
    }

    int seen() {
        return seen;
    }

    boolean failedAlready() {
        return wrong > 0;
    }

    /** Ends the program with exit code 1 if an answer was not as due. */
    void close() {
        System.out.println(test + ": " + seen + " looked at, " + wrong + " not as due");
        if (wrong > 0 || seen == 0) {
            System.exit(1);
        }
    }
}
