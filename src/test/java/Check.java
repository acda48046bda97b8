/** Counts tests; a test is a named Runnable that calls same() and holds(). */
final class Check {
    private static int passed = 0;
    private static int failed = 0;
    private static int wrongHere = 0;
    private static final int MOST_ROWS = 10;

    private Check() {
    }

    static void test(String name, Runnable body) {
        wrongHere = 0;
        try {
            body.run();
        } catch (RuntimeException | Error thrown) {
            wrong("threw " + thrown);
            thrown.printStackTrace(System.out);
        }
        if (wrongHere == 0) {
            passed++;
        } else {
            failed++;
            System.out.println("FAILED: " + name + " (" + wrongHere + " wrong)");
        }
    }

    static void same(String call, long due, long got) {
        if (due != got) {
            wrong(call + " answered " + got + ", due is " + due);
        }
    }

    static void holds(String what, boolean isSo) {
        if (!isSo) {
            wrong(what);
        }
    }

    private static void wrong(String row) {
        wrongHere++;
        if (wrongHere <= MOST_ROWS) {
            System.out.println("  " + row);
        }
    }

    static int passed() {
        return passed;
    }

    static int failed() {
        return failed;
    }
}
