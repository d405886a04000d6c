/** Counts and prints the answers that are not as due. */
final class Checks {
    private static final int MOST_PRINTED = 20;
    private final String title;
    private int wrong = 0;
    private int seen = 0;

    Checks() {
        this("");
    }

    /** The title stands before each text that is printed. */
    Checks(String title) {
        this.title = title;
    }

    void due(String call, long got, long want) {
        seen++;
        if (got != want) {
            tell(call + " answered " + got + ", due is " + want);
        }
    }

    void due(String call, boolean got, boolean want) {
        due(call, got ? 1 : 0, want ? 1 : 0);
    }

    void dueThrow(String call, Class<? extends RuntimeException> want, Runnable run) {
        seen++;
        try {
            run.run();
        } catch (RuntimeException e) {
            if (e.getClass() != want) {
                tell(call + " threw " + e + ", due is " + want.getName());
            }
            return;
        }
        tell(call + " threw nothing, due is " + want.getName());
    }

    void dueNoThrow(String call, Runnable run) {
        seen++;
        try {
            run.run();
        } catch (RuntimeException e) {
            tell(call + " threw " + e + ", due is no exception");
        }
    }

    void tell(String text) {
        wrong++;
        if (wrong <= MOST_PRINTED) {
            System.out.println(title + text);
        }
    }

    /** Whether something was looked at, and nothing was wrong. */
    boolean isGood() {
        return wrong == 0 && seen > 0;
    }

    void end() {
        System.out.println(seen + " answers looked at, " + wrong + " not as due");
        if (!isGood()) {
            System.exit(1);
        }
    }
}
