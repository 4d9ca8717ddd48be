import java.util.Objects;

/** Runs tests one by one, and counts those that pass and those that fail. */
final class Check {
    private static int passed = 0;
    private static int failed = 0;

    private Check() {
    }

    /** A test, or a call that a test makes. */
    interface Body {
        void run();
    }

    static void test(String name, Body body) {
        try {
            body.run();
            passed++;
        } catch (AssertionError | RuntimeException e) {
            failed++;
            System.out.println("FAILED " + name + ": " + e);
        }
    }

    static boolean report() {
        System.out.println(passed + " passed, " + failed + " failed");
        return failed == 0;
    }

    static void equal(Object due, Object got) {
        if (!Objects.equals(due, got)) {
            throw new AssertionError("due is " + due + ", but the answer is " + got);
        }
    }

    /** The very class is asked for: the machine's own exceptions are subclasses of some of them. */
    static void refused(Class<? extends RuntimeException> due, Body call) {
        Class<?> got = null;
        try {
            call.run();
        } catch (RuntimeException e) {
            got = e.getClass();
        }
        equal(due, got);
    }

    /** The call is to throw, and to leave all that can be read as it was. */
    static void refused(Class<? extends RuntimeException> due, ProductConfigurator x, Body call) {
        String before = Readings.of(x);
        refused(due, call);
        equal(before, Readings.of(x));
    }
}
