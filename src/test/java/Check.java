import java.util.Objects;

/** Runs tests one by one, and counts those that pass and those that fail. */
final class Check {
    private static int passed = 0;
    private static int failed = 0;

    private Check() {
    }

    /** A test, or a call that a test makes. */
    interface Body {
        void run();
    }

    /** Makes an object and brings it to a state, each time the same one. */
    interface Maker {
        ProductConfigurator make();
    }

    interface Use {
        void of(ProductConfigurator x);
    }

    interface UseOfValue {
        void of(ProductConfigurator x, int value);
    }

    static void test(String name, Body body) {
        try {
            body.run();
            passed++;
        } catch (AssertionError | RuntimeException | StackOverflowError e) {
            failed++;
            System.out.println("FAILED " + name + ": " + e);
        }
    }

    static boolean report() {
        System.out.println(passed + " passed, " + failed + " failed");
        return failed == 0;
    }

    static void equal(Object due, Object got) {
        if (!Objects.equals(due, got)) {
            throw new AssertionError("due is " + due + ", but the answer is " + got);
        }
    }

    /** Tells the first line alone that differs: readings are long. */
    static void sameReadings(String due, String got) {
        String[] dueLines = due.split("\n");
        String[] gotLines = got.split("\n");
        for (int k = 0; k < Math.min(dueLines.length, gotLines.length); k++) {
            equal(dueLines[k], gotLines[k]);
        }
        equal(dueLines.length, gotLines.length);
    }

    /** The very class is asked for: the machine's own exceptions are subclasses of some of them. */
    static void refused(Class<? extends RuntimeException> due, Body call) {
        Class<?> got = null;
        try {
            call.run();
        } catch (RuntimeException e) {
            got = e.getClass();
        }
        equal(due, got);
    }

    /**
     * The call is to throw when a new object is in that state, and to leave every answer as on
     * another object that never got the call.
     */
    static void refused(Class<? extends RuntimeException> due, Maker state, Use call) {
        ProductConfigurator x = state.make();
        refused(due, () -> call.of(x));
        sameReadings(Readings.whole(state.make()), Readings.whole(x));
    }

    /** Each of these values is refused so. */
    static void refused(Class<? extends RuntimeException> due, Maker state, int[] wrong,
            UseOfValue call) {
        for (int value : wrong) {
            refused(due, state, x -> call.of(x, value));
        }
    }
}
