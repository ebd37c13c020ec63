/** Counts the answers of one test that are not as due, and ends it. */
final class Check {
    interface Call {
        void run();
    }

    static final Class<?> BOUNDS = IndexOutOfBoundsException.class;
    static final Class<?> ARGUMENT = IllegalArgumentException.class;

    private static final int MOST_SECONDS = 120;

    private static int wrong = 0;
    private static int seen = 0;

    private static boolean watched = false;

    private Check() {
    }

    /** Called with every new object, for a test may hang before its first answer is looked at. */
    static void watch() {
        if (!watched) {
            watched = true;
            Thread guard = new Thread(Check::endInTime);
            guard.setDaemon(true);
            guard.start();
        }
    }

    /** A call that does not end has to fail the test, and not to hold it up for ever. */
    private static void endInTime() {
        try {
            Thread.sleep(1000L * MOST_SECONDS);
        } catch (InterruptedException e) {
            return;
        }
        System.out.println("not ended after " + MOST_SECONDS + " seconds");
        Runtime.getRuntime().halt(1);
    }

    static void same(String what, long got, long due) {
        seen++;
        if (got != due) {
            wrong++;
            System.out.println(what + " answered " + got + ", due is " + due);
        }
    }

    static void same(String what, boolean got, boolean due) {
        same(what, got ? 1 : 0, due ? 1 : 0);
    }

    /** The call has to throw exactly this class, and none below or above it. */
    static void refused(String what, Class<?> due, Call call) {
        seen++;
        Class<?> got = null;
        try {
            call.run();
        } catch (RuntimeException e) {
            got = e.getClass();
        }
        if (got != due) {
            wrong++;
            System.out.println(what + " threw " + got + ", due is " + due);
        }
    }

    static void end() {
        System.out.println(seen + " answers, " + wrong + " not as due");
        if (wrong != 0) {
            System.exit(1);
        }
    }
}
