/** Compares answers with those that are due, and ends a test with exit code 1 if one differs. */
final class Check {
    private int compared = 0;
    private int wrong = 0;

    void due(String call, int got, int want) {
        compared++;
        if (got != want) {
            wrong++;
            System.out.println(call + " answered " + got + ", due is " + want);
        }
    }

    void due(String call, boolean got, boolean want) {
        due(call, got ? 1 : 0, want ? 1 : 0);
    }

    void yes(String call, boolean got) {
        due(call, got, true);
    }

    void no(String call, boolean got) {
        due(call, got, false);
    }

    void none(String call, int got) {
        due(call, got, EndorsedLedger.NONE);
    }

    boolean isClean() {
        return wrong == 0;
    }

    void end() {
        System.out.println(compared + " answers compared, " + wrong + " wrong");
        if (wrong != 0) {
            System.exit(1);
        }
    }
}
