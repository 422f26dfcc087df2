/** Compares answers with those that are due and counts the wrong ones. */
final class Check {
    private static final int MOST_TOLD = 40;

    private final String ahead;
    private int wrong = 0;
    private int asked = 0;

    Check() {
        this("");
    }

    /** What stands ahead of each line that is told. */
    Check(String ahead) {
        this.ahead = ahead;
    }

    void due(String call, long got, long want) {
        asked++;
        if (got == want) return;
        wrong++;
        if (wrong <= MOST_TOLD) System.out.println(ahead + call + " answered " + got + ", due is " + want);
    }

    void holds(String what, boolean isSo) {
        asked++;
        if (isSo) return;
        wrong++;
        if (wrong <= MOST_TOLD) System.out.println(ahead + "not so: " + what);
    }

    boolean isAllWell() {
        return wrong == 0;
    }

    boolean hasAsked() {
        return asked > 0;
    }

    boolean isFull() {
        return wrong >= MOST_TOLD;
    }

    /** Ends the test's run: with exit code 1 if an answer was wrong, or if none was asked for. */
    void end() {
        System.out.println(asked + " answers, " + wrong + " wrong");
        if (wrong != 0 || asked == 0) System.exit(1);
    }
}
