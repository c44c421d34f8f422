/** Counts checks, tells the ones that fail, and ends a test with the exit code 1 if there was one. */
final class Check {
    private static final long MOST_SECONDS = 300;

    private static int passed = 0;
    private static int failed = 0;

    // A call that does not end would hold up .ci/run for ever.
    static {
        Thread guard = new Thread(() -> waitAndHalt());
        guard.setDaemon(true);
        guard.start();
    }

    interface Call {
        long answer();
    }

    private Check() {
    }

    static void equal(String what, long got, long due) {
        tell(got == due, what + " answered " + got + ", due is " + due);
    }

    static void equal(String what, double got, double due) {
        tell(Double.compare(got, due) == 0, what + " answered " + got + ", due is " + due);
    }

    static void that(String what, boolean holds) {
        tell(holds, what);
    }

    /** The call throws exactly this exception, and the state is as before. */
    static void refuses(SlabDunes x, String what, Class<? extends RuntimeException> due, Call call) {
        long before = x.digest();
        String got = outcome(call);
        tell(got.equals(due.getSimpleName()), what + " ended with " + got + ", due is " + due.getSimpleName());
        equal(what + ": the digest after it", x.digest(), before);
    }

    static void refusesArgument(SlabDunes x, String what, Call call) {
        refuses(x, what, IllegalArgumentException.class, call);
    }

    static void refusesIndex(SlabDunes x, String what, Call call) {
        refuses(x, what, IndexOutOfBoundsException.class, call);
    }

    /** The answer as a text, or the simple name of the exception. */
    static String outcome(Call call) {
        try {
            return Long.toString(call.answer());
        } catch (RuntimeException e) {
            return e.getClass().getSimpleName();
        }
    }

    static void end(String test) {
        System.out.println(test + ": " + passed + " checks passed, " + failed + " failed");
        if (failed > 0) {
            System.exit(1);
        }
    }

    private static void waitAndHalt() {
        try {
            Thread.sleep(MOST_SECONDS * 1000);
        } catch (InterruptedException e) {
            Thread.currentThread().interrupt();
        }
        System.out.println("WRONG: a call does not end");
        Runtime.getRuntime().halt(1);
    }

    private static void tell(boolean holds, String what) {
        if (holds) {
            passed++;
        } else {
            failed++;
            System.out.println("WRONG: " + what);
        }
    }
}
