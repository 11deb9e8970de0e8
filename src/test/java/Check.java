/** Counts the answers that are not as due; a test ends with exit code 1 if there was one. */
final class Check {
    static final String INDEX = "IndexOutOfBoundsException";
    static final String ARGUMENT = "IllegalArgumentException";

    private static int checks = 0;
    private static int wrong = 0;

    interface Call {
        void run();
    }

    private Check() {
    }

    static void same(String what, long got, long due) {
        checks++;
        if (got != due) {
            fault(what + " answered " + got + ", due is " + due);
        }
    }

    static void is(String what, boolean got) {
        same(what, got ? 1 : 0, 1);
    }

    static void not(String what, boolean got) {
        same(what, got ? 1 : 0, 0);
    }

    /** The count that a call found, and what found() tells then. */
    static void finds(String what, PartBook book, int count, int... due) {
        same(what + " count", count, due.length);
        for (int k = 0; k < due.length; k++) {
            same(what + " found(" + k + ")", book.found(k), due[k]);
        }
        same(what + " found behind", book.found(due.length), -1);
    }

    static void refuses(String what, String due, Call call) {
        checks++;
        String got = "nothing";
        try {
            call.run();
        } catch (RuntimeException e) {
            got = e.getClass().getSimpleName();
        }
        if (!got.equals(due)) {
            fault(what + " threw " + got + ", due is " + due);
        }
    }

    static void fault(String text) {
        wrong++;
        System.out.println(text);
    }

    static void end() {
        System.out.println(checks + " checks, " + wrong + " wrong");
        if (wrong != 0 || checks == 0) {
            System.exit(1);
        }
    }
}
