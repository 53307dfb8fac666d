/** Counts the answers that are not due, and ends a test with exit code 1 if there was one. */
final class Due {
    private final String test;
    private int looked = 0;
    private int wrong = 0;

    Due(String test) {
        this.test = test;
    }

    void is(String call, long got, long want) {
        looked++;
        if (got != want) {
            wrong++;
            System.out.println(test + ": " + call + " answered " + got + ", due is " + want);
        }
    }

    void holds(String what, boolean truth) {
        is(what, truth ? 1 : 0, 1);
    }

    /** A refused call: its answer, and what status() tells behind it. */
    void refused(StaveScore score, String call, long got, long want, int status) {
        is(call, got, want);
        is(call + ", status()", score.status(), status);
    }

    void refused(StaveScore score, String call, long got, int want) {
        refused(score, call, got, want, want);
    }

    void finish() {
        System.out.println(test + ": " + looked + " answers looked at, " + wrong + " wrong");
        if (wrong != 0) {
            System.exit(1);
        }
    }
}
