import java.util.Set;

/** Counts what a test checks; each wrong answer is printed with the line that asked for it. */
final class Checks {
    /** Answers above any index or count, and below 0, as wrong numbers of things. */
    static final int[] NO_NUMBERS = {-1, 1000, Integer.MIN_VALUE, Integer.MAX_VALUE};

    /** The lines of these are not the ones that ask. */
    private static final Set<String> HELPERS = Set.of("Checks", "Boundaries", "Boundaries$Sentences");

    private int made;
    private int wrong;

    void equal(long actual, long due) {
        judge(actual == due, "answered " + actual + ", due is " + due);
    }

    void equal(double actual, double due) {
        judge(actual == due, "answered " + actual + ", due is " + due);
    }

    void yes(boolean actual) {
        judge(actual, "answered false, due is true");
    }

    void no(boolean actual) {
        judge(!actual, "answered true, due is false");
    }

    /** The very class is asked for: the machine's own exceptions are often classes below the due one. */
    void fails(Class<? extends RuntimeException> due, Runnable call) {
        RuntimeException thrown = null;
        try {
            call.run();
        } catch (RuntimeException e) {
            thrown = e;
        }
        judge(thrown != null && thrown.getClass() == due && isOwn(thrown), "threw " + thrown + ", due is " + due);
    }

    void holds(boolean isRight, String message) {
        judge(isRight, message);
    }

    int made() {
        return made;
    }

    /** Whether a throw statement of the class threw it, and not the library or the machine itself. */
    static boolean isOwn(Throwable thrown) {
        StackTraceElement[] trace = thrown.getStackTrace();
        boolean isDivision = "/ by zero".equals(thrown.getMessage());
        return !isDivision && trace.length > 0 && trace[0].getClassName().startsWith("Globewright");
    }

    void end() {
        System.out.println(made + " checks, " + wrong + " wrong");
        if (wrong != 0 || made == 0) {
            System.exit(1);
        }
    }

    private void judge(boolean isRight, String message) {
        made++;
        if (!isRight) {
            wrong++;
            System.out.println(caller() + ": " + message);
        }
    }

    private static String caller() {
        return StackWalker.getInstance().walk(frames -> frames
                .filter(frame -> !HELPERS.contains(frame.getClassName()))
                .findFirst()
                .map(frame -> frame.getClassName() + " line " + frame.getLineNumber())
                .orElse("?"));
    }
}
