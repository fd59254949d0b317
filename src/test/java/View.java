import java.util.ArrayList;
import java.util.List;

/**
 * All that can be seen of a ledger after some calls: what it answers to every question, and what it does with
 * calls that bring to light what no question tells (programs, rules, what waits, what was saved). As a ledger has
 * 512 calls, each part of the view is taken of a new ledger that has had the same calls.
 */
final class View {
    private static final int NONE = EndorsedLedger.NONE;

    private final List<Call> past;
    private final int roomAfter;
    private final List<Call> asked = new ArrayList<>();
    private final List<Integer> answers = new ArrayList<>();
    private EndorsedLedger ledger;
    private int room;

    /** The view after these calls; so many more may be made of one ledger. Views of the same room can be compared. */
    View(List<Call> past, int roomAfter) {
        this.past = past;
        this.roomAfter = roomAfter;
        begin();
        askQuestions();
        for (int program = 0; program < 4; program++) {
            tryRoomForRules(program);
            tryPile(program);
            tryRun(program);
            tryPolicy(program);
        }
        tryRoomForCode();
        for (int p = 0; p < 4; p++) {
            tryComingBack(p);
            tryDelivering(p);
        }
        for (int o = 0; o < 3; o++) {
            tryCutting(o);
            tryCopying(o);
        }
    }

    /** The first call that the two views answer in different ways, or null. */
    String difference(View other) {
        int both = Math.min(answers.size(), other.answers.size());
        for (int i = 0; i < both; i++) {
            if (!answers.get(i).equals(other.answers.get(i))) {
                return asked.get(i) + " answers " + other.answers.get(i) + ", and not " + answers.get(i);
            }
        }
        return answers.size() == other.answers.size() ? null : "there is more or less to see";
    }

    private void begin() {
        ledger = new EndorsedLedger();
        for (Call call : past) {
            call.on(ledger);
        }
        room = roomAfter;
    }

    private int make(String name, int... args) {
        if (room <= 0) {
            return NONE;
        }
        room--;
        Call call = new Call(name, args);
        int answer = call.on(ledger);
        asked.add(call);
        answers.add(answer);
        return answer;
    }

    private int ask(String name, int... args) {
        if (room <= 0) {
            begin();
        }
        return make(name, args);
    }

    private void askQuestions() {
        for (int what = 0; what <= 18; what++) {
            ask("about", what);
        }
        askTransactions(ask("about", 9));
        askBlocks(ask("about", 7));
        for (int p = 0; p < 4; p++) {
            for (int key = 0; key < 16; key++) {
                ask("state", p, key, 0);
                ask("state", p, key, 1);
            }
        }
        for (int o = 0; o < 3; o++) {
            int length = ask("about", 3 + o);
            for (int b = 0; b < length; b++) {
                for (int place = NONE; place < 4; place++) {
                    ask("log", o, b, place);
                }
            }
        }
    }

    private void askTransactions(int count) {
        for (int t = 0; t < count; t++) {
            for (int what = 0; what <= 6; what++) {
                ask("transaction", t, what);
            }
            for (int cell = 0; cell < 16 * 5; cell++) {
                ask("access", t, cell / 5, cell % 5);
            }
        }
    }

    private void askBlocks(int count) {
        for (int b = 0; b < count; b++) {
            for (int place = NONE; place < 4; place++) {
                ask("chain", b, place);
                for (int p = 0; p < 4; p++) {
                    ask("flag", p, b, place);
                }
            }
        }
    }

    private void tryRoomForCode() {
        begin();
        for (int program = 0; program < 4; program++) {
            boolean isTaken = true;
            for (int i = 0; i <= 12 && isTaken; i++) {
                isTaken = make("code", program, 1, 0) == 1;
            }
        }
    }

    private void tryRoomForRules(int program) {
        begin();
        boolean isTaken = true;
        for (int i = 0; i <= 9 && isTaken; i++) {
            isTaken = make("policy", program, 0, 0) == 1;
        }
    }

    private void tryPile(int program) {
        begin();
        boolean isTaken = true;
        for (int i = 0; i <= 9 && isTaken; i++) {
            isTaken = make("policy", program, 1, 2) == 1;
        }
    }

    private void tryRun(int program) {
        begin();
        int t = make("propose", program, 3);
        for (int p = 0; p < 4; p++) {
            make("endorse", t, p);
        }
        for (int cell = 0; cell < 16 * 5; cell++) {
            make("access", t, cell / 5, cell % 5);
        }
    }

    /** One transaction for each set of endorsers that is not empty. */
    private void tryPolicy(int program) {
        begin();
        powerAll();
        for (int set = 1; set < 16; set++) {
            int t = make("propose", program, 3);
            for (int p = 0; p < 4; p++) {
                if ((set & 1 << p) != 0) {
                    make("endorse", t, p);
                }
            }
            make("submit", t);
        }
        int leader = electAny();
        for (int i = 0; i < 4; i++) {
            make("cut", leader);
            make("copy", leader, (leader + 1) % 3);
        }
        deliverAll(0);
        int height = make("about", 10);
        for (int cell = 0; cell < 16; cell++) {
            make("flag", 0, height - 1 - cell / 4, cell % 4);
        }
    }

    private void powerAll() {
        for (int node = 0; node < 7; node++) {
            make("power", node, 1);
        }
    }

    private int electAny() {
        for (int o = 0; o < 3; o++) {
            if (make("elect", o) != NONE) {
                return o;
            }
        }
        return 0;
    }

    private void deliverAll(int p) {
        int answer = 0;
        for (int i = 0; i <= 40 && answer != NONE; i++) {
            answer = make("deliver", p);
        }
    }

    private void tryComingBack(int p) {
        begin();
        make("power", 3 + p, 0);
        make("power", 3 + p, 1);
        for (int key = 0; key < 16; key++) {
            make("state", p, key, 0);
            make("state", p, key, 1);
        }
    }

    private void tryDelivering(int p) {
        begin();
        make("power", 3 + p, 1);
        deliverAll(p);
        for (int key = 0; key < 16; key++) {
            make("state", p, key, 0);
            make("state", p, key, 1);
        }
    }

    private void tryCutting(int o) {
        begin();
        make("power", o, 1);
        make("elect", o);
        for (int i = 0; i <= 5; i++) {
            make("cut", o);
            int length = make("about", 3 + o);
            for (int place = NONE; place < 4; place++) {
                make("log", o, length - 1, place);
            }
        }
    }

    private void tryCopying(int o) {
        begin();
        powerAll();
        make("elect", o);
        for (int i = 0; i < 4; i++) {
            make("copy", o, (o + 1) % 3);
            make("copy", o, (o + 2) % 3);
        }
        for (int what = 0; what <= 7; what++) {
            make("about", what);
        }
    }
}
