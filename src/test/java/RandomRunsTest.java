import java.util.List;

/** Runs of 512 calls, the same every time, whose answers the program and the model must agree on. */
final class RandomRunsTest {
    private static final int RUNS = 6000;
    private static final int CALLS = 512;
    private static final List<String> NAMES = Call.NAMES;
    private static final Check check = new Check();
    private static final int[] refused = new int[NAMES.size()];
    private static final int[] taken = new int[NAMES.size()];
    private static final int[] flagsSeen = new int[5];

    public static void main(String[] args) {
        for (int seed = 0; seed < RUNS && check.isClean(); seed++) {
            oneRun(seed);
        }
        everyCallWasTakenAndRefused();
        check.end();
    }

    private static void oneRun(int seed) {
        RandomCalls calls = new RandomCalls(seed);
        EndorsedLedger ledger = new EndorsedLedger();
        ModelLedger model = new ModelLedger();
        for (int i = 0; i < CALLS && check.isClean(); i++) {
            Call call = calls.next(model);
            int want = call.on(model);
            check.due("run " + seed + ", call " + i + ": " + call, call.on(ledger), want);
            count(call.which(), want);
        }
    }

    private static void count(int which, int answer) {
        boolean isBoolean = which <= 1 || which == 4 || which == 10;
        if (answer == (isBoolean ? 0 : -1)) {
            refused[which]++;
        } else {
            taken[which]++;
        }
        if (which == 14 && answer >= 0) {
            flagsSeen[answer]++;
        }
    }

    /** Else the runs would say less than they seem to. */
    private static void everyCallWasTakenAndRefused() {
        for (int which = 0; which < NAMES.size(); which++) {
            check.yes(NAMES.get(which) + " was taken", taken[which] > 100);
            check.yes(NAMES.get(which) + " was refused", refused[which] > 100);
        }
        for (int flag = 0; flag < 5; flag++) {
            check.yes("flag " + flag + " was seen", flagsSeen[flag] > 100);
        }
    }
}
