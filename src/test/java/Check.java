/** Compares answers with those that are due, prints each wrong one, and ends a test with exit code 1 if there was one. */
public final class Check {
    interface Call {
        void run();
    }

    private static int wrong = 0;
    private static int asked = 0;

    private Check() {
    }

    static void due(String what, long got, long want) {
        asked++;
        if (got != want) {
            wrong++;
            System.out.println(what + " answered " + got + ", due is " + want);
        }
    }

    static void due(String what, boolean got, boolean want) {
        due(what, got ? 1 : 0, want ? 1 : 0);
    }

    static void dueReal(String what, double got, double want) {
        asked++;
        if (got != want) {
            wrong++;
            System.out.println(what + " answered " + got + ", due is " + want);
        }
    }

    /** The very class of the exception is compared, and it must be thrown by the class itself, never by the machine. */
    static void dueThrow(String what, Class<? extends RuntimeException> want, Call call) {
        asked++;
        RuntimeException got = null;
        try {
            call.run();
        } catch (RuntimeException e) {
            got = e;
        }
        if (got == null || got.getClass() != want || !isOwn(got)) {
            wrong++;
            System.out.println(what + " threw " + got + ", due is " + want.getSimpleName());
        }
    }

    private static boolean isOwn(RuntimeException thrown) {
        StackTraceElement[] calls = thrown.getStackTrace();
        return calls.length > 0 && calls[0].getClassName().startsWith("GalleonWave");
    }

    static void dueIndex(String what, Call call) {
        dueThrow(what, IndexOutOfBoundsException.class, call);
    }

    static void dueArgument(String what, Call call) {
        dueThrow(what, IllegalArgumentException.class, call);
    }

    static void dueState(String what, Call call) {
        dueThrow(what, IllegalStateException.class, call);
    }

    static void dueUnsupported(String what, Call call) {
        dueThrow(what, UnsupportedOperationException.class, call);
    }

    static void end(String test) {
        System.out.println(test + ": " + asked + " asked, " + wrong + " wrong");
        if (wrong != 0 || asked == 0) {
            System.exit(1);
        }
    }
}
