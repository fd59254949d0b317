import java.util.ArrayList;
import java.util.List;

/** Every call with every group of right and wrong arguments, at once too: the answers are those of the model. */
final class EveryArgumentTest {
    private static final int[] VALUES = {Integer.MIN_VALUE, -2, -1, 0, 1, 3, 4, 6, 12, 13, 15, 16, 60, Integer.MAX_VALUE};
    private static final int[] LENGTHS = {0, 40, 200, 400};
    private static final int LIMIT = 512;
    private static final Check check = new Check();

    public static void main(String[] args) {
        for (int seed = 0; seed < LENGTHS.length; seed++) {
            List<Call> past = past(seed, LENGTHS[seed]);
            for (int which = 0; which < Call.NAMES.size(); which++) {
                List<Call> calls = calls(which);
                if (which < Call.FIRST_QUESTION) {
                    makeAll(past, calls);
                } else {
                    askAll(past, calls);
                }
            }
        }
        check.end();
    }

    private static List<Call> past(int seed, int length) {
        RandomCalls random = new RandomCalls(seed);
        ModelLedger model = new ModelLedger();
        List<Call> past = new ArrayList<>();
        for (int i = 0; i < length; i++) {
            Call call = random.next(model);
            call.on(model);
            past.add(call);
        }
        return past;
    }

    private static List<Call> calls(int which) {
        int parameters = Call.parameters(which);
        int count = 1;
        for (int i = 0; i < parameters; i++) {
            count *= VALUES.length;
        }
        List<Call> calls = new ArrayList<>();
        for (int number = 0; number < count; number++) {
            int[] args = new int[parameters];
            int rest = number;
            for (int i = 0; i < parameters; i++) {
                args[i] = VALUES[rest % VALUES.length];
                rest /= VALUES.length;
            }
            calls.add(new Call(which, args));
        }
        return calls;
    }

    /** Each call is the first one after those of the past. */
    private static void makeAll(List<Call> past, List<Call> calls) {
        for (Call call : calls) {
            check.due(past.size() + " calls, then " + call, call.on(ledgerAfter(past)), call.on(modelAfter(past)));
        }
    }

    private static void askAll(List<Call> past, List<Call> questions) {
        ModelLedger model = modelAfter(past);
        EndorsedLedger ledger = null;
        int room = 0;
        for (Call question : questions) {
            if (room == 0) {
                ledger = ledgerAfter(past);
                room = LIMIT - past.size();
            }
            room--;
            check.due(past.size() + " calls, then " + question, question.on(ledger), question.on(model));
        }
    }

    private static EndorsedLedger ledgerAfter(List<Call> past) {
        EndorsedLedger ledger = new EndorsedLedger();
        for (Call call : past) {
            call.on(ledger);
        }
        return ledger;
    }

    private static ModelLedger modelAfter(List<Call> past) {
        ModelLedger model = new ModelLedger();
        for (Call call : past) {
            call.on(model);
        }
        return model;
    }
}
