import java.util.ArrayList;
import java.util.List;

/** "A call that is refused changes nothing", nor does a question: a run without them leaves the same ledger. */
final class RefusedCallsTest {
    private static final int RUNS = 1000;
    private static final int CALLS = 300;
    private static final int ROOM = 512 - CALLS;
    private static final Check check = new Check();

    public static void main(String[] args) {
        for (int seed = 0; seed < RUNS && check.isClean(); seed++) {
            oneRun(seed);
        }
        check.end();
    }

    private static void oneRun(int seed) {
        RandomCalls calls = new RandomCalls(seed);
        EndorsedLedger ledger = new EndorsedLedger();
        EndorsedLedger other = new EndorsedLedger();
        ModelLedger model = new ModelLedger();
        List<Call> all = new ArrayList<>();
        List<Call> taken = new ArrayList<>();
        for (int i = 0; i < CALLS; i++) {
            Call call = calls.next(model);
            call.on(model);
            int answer = call.on(ledger);
            all.add(call);
            if (!call.leavesAll(answer)) {
                taken.add(call);
                check.due("run " + seed + ", call " + i + ": " + call, answer, call.on(other));
            }
        }
        String difference = new View(taken, ROOM).difference(new View(all, ROOM));
        check.yes("run " + seed + ", with what was refused: " + difference, difference == null);
    }
}
