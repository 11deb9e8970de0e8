/** Counts the answers that are not as due; a test ends with exit code 1 if there was one. */
final class Check {
    static final String INDEX = "IndexOutOfBoundsException";
    static final String ARGUMENT = "IllegalArgumentException";

    private static final long MOST_MILLIS = 120_000;

    private static volatile String place = "";
    private static int checks = 0;
    private static int wrong = 0;

    static {
        Thread watch = new Thread(Check::endLate);
        watch.setDaemon(true);
        watch.start();
    }

    interface Call {
        void run();
    }

    private Check() {
    }

    /** A call that does not end fails its test, too. */
    private static void endLate() {
        try {
            Thread.sleep(MOST_MILLIS);
        } catch (InterruptedException e) {
            return;
        }
        System.out.println(place + "does not end");
        Runtime.getRuntime().halt(1);
    }

    /** What is told in front of each fault from here on. */
    static void at(String name) {
        place = name + ": ";
    }

    static int wrong() {
        return wrong;
    }

    static void same(String what, long got, long due) {
        checks++;
        if (got != due) {
            fault(what + " answered " + got + ", due is " + due);
        }
    }

    static void same(String what, String got, String due) {
        checks++;
        if (!got.equals(due)) {
            fault(what + " is " + got + ", due is " + due);
        }
    }

    static void is(String what, boolean got) {
        same(what, got ? 1 : 0, 1);
    }

    static void not(String what, boolean got) {
        same(what, got ? 1 : 0, 0);
    }

    /** The count that a call found, and what found() tells then. */
    static void finds(String what, PartBook book, int count, int... due) {
        same(what + " count", count, due.length);
        for (int k = 0; k < due.length; k++) {
            same(what + " found(" + k + ")", book.found(k), due[k]);
        }
        same(what + " found behind", book.found(due.length), -1);
    }

    /** By the very name: what the machine throws is of a class below the one that is due. */
    static void refuses(String what, String due, Call call) {
        String got = "nothing";
        try {
            call.run();
        } catch (RuntimeException e) {
            got = e.getClass().getSimpleName();
        }
        same("what " + what + " threw", got, due);
    }

    static void fault(String text) {
        wrong++;
        System.out.println(place + text);
    }

    static void end() {
        System.out.println(checks + " checks, " + wrong + " wrong");
        if (wrong != 0 || checks == 0) {
            System.exit(1);
        }
    }
}
