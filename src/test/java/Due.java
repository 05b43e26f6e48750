/** What the tests ask with: it prints every answer that is not the one that is due, and counts them. */
final class Due {

    /** A call on a table. */
    interface Call {
        int answer();
    }

    private static int asked = 0;
    private static int wrong = 0;

    private Due() {
    }

    static void is(String call, long got, long due) {
        asked++;
        if (got != due) {
            complain(call + " answered " + got + ", due is " + due);
        }
    }

    static void is(String call, String got, String due) {
        asked++;
        if (!got.equals(due)) {
            complain(call + " answered " + got + ", due is " + due);
        }
    }

    /** The very class is asked for: the machine's own exceptions are subclasses of some of these. */
    static void refuses(String call, Class<? extends RuntimeException> due, Call made) {
        asked++;
        try {
            complain(call + " answered " + made.answer() + ", due is " + due.getSimpleName());
        } catch (RuntimeException thrown) {
            if (thrown.getClass() != due) {
                complain(call + " threw " + thrown + ", due is " + due.getSimpleName());
            }
        }
    }

    static void complain(String what) {
        wrong++;
        System.out.println(what);
    }

    /** To be called last in a test: ends with exit code 1 if an answer was not as due. */
    static void end() {
        System.out.println(asked + " answers, " + wrong + " not as due");
        if (wrong > 0 || asked == 0) {
            System.exit(1);
        }
    }
}
