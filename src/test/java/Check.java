/** Compares answers with those that are due, prints each that differs, and ends a test. */
final class Check {
    private int looked = 0;
    private int wrong = 0;

    void due(String call, int got, int want) {
        looked++;
        if (got != want) {
            wrong++;
            System.out.println(call + " answered " + got + ", due is " + want);
        }
    }

    void due(String call, boolean got, boolean want) {
        due(call, got ? 1 : 0, want ? 1 : 0);
    }

    boolean hasWrong() {
        return wrong > 0;
    }

    /** Exit code 1 if an answer was wrong, or if nothing was looked at. */
    void end() {
        System.out.println(looked + " answers, " + wrong + " wrong");
        if (wrong > 0 || looked == 0) {
            System.exit(1);
        }
    }
}
