import java.util.TreeSet;

/** Counts what passed and failed, and which promises were tested at all. */
final class Check {
    interface Call {
        Object answer();
    }

    private static final int PROMISES = 55;
    private static final TreeSet<Integer> TESTED = new TreeSet<>();
    private static int passed = 0;
    private static int failed = 0;

    private Check() {
    }

    static void is(int promise, String what, Object got, Object due) {
        TESTED.add(promise);
        if (due.equals(got)) {
            passed++;
        } else {
            fail("promise " + promise + ": " + what + " answered " + got + ", due is " + due);
        }
    }

    static void fails(int promise, String what, Class<? extends Exception> due, Call call) {
        TESTED.add(promise);
        String got;
        try {
            got = "answered " + call.answer();
        } catch (Exception thrown) {
            // The very class, for an answer with a subclass would be another answer.
            got = thrown.getClass() == due ? "" : "threw " + thrown;
        }
        if (got.isEmpty()) {
            passed++;
        } else {
            fail("promise " + promise + ": " + what + " " + got + ", due is " + due.getSimpleName());
        }
    }

    static void holds(String what, boolean holds) {
        if (holds) {
            passed++;
        } else {
            fail(what);
        }
    }

    static void fail(String what) {
        failed++;
        System.out.println(what);
    }

    static boolean finish() {
        for (int promise = 1; promise <= PROMISES; promise++) {
            holds("promise " + promise + " has no test", TESTED.contains(promise));
        }
        System.out.println(passed + " passed, " + failed + " failed");
        return failed == 0;
    }
}
