import java.util.Arrays;
import java.util.List;

/** One call of the face; a boolean counts 1 or 0, as an argument and as an answer. */
final class Call {
    static final List<String> NAMES = List.of(
        "code", "policy", "propose", "endorse", "submit", "elect", "cut", "copy", "power", "deliver", "tear",
        "transaction", "access", "state", "flag", "chain", "log", "about");
    static final int FIRST_QUESTION = 11;
    private static final int[] PARAMETERS = {3, 3, 2, 2, 1, 1, 1, 2, 2, 1, 1, 2, 3, 3, 3, 2, 3, 1};

    private final int which;
    private final int[] args;

    Call(String name, int... args) {
        this(NAMES.indexOf(name), args);
    }

    Call(int which, int... args) {
        this.which = which;
        this.args = args;
        if (which < 0 || args.length != PARAMETERS[which]) {
            throw new IllegalArgumentException("no such call: " + which + Arrays.toString(args));
        }
    }

    int which() {
        return which;
    }

    static int parameters(int which) {
        return PARAMETERS[which];
    }

    boolean isQuestion() {
        return which >= FIRST_QUESTION;
    }

    /** Whether the document says that a call with this answer has changed nothing. */
    boolean leavesAll(int answer) {
        switch (NAMES.get(which)) {
            case "code", "policy", "submit", "tear":
                return answer == 0;
            case "endorse":
                return answer != 0;
            default:
                return isQuestion() || answer == EndorsedLedger.NONE;
        }
    }

    int on(EndorsedLedger x) {
        switch (which) {
            case 0: return number(x.code(args[0], args[1], args[2]));
            case 1: return number(x.policy(args[0], args[1], args[2]));
            case 2: return x.propose(args[0], args[1]);
            case 3: return x.endorse(args[0], args[1]);
            case 4: return number(x.submit(args[0]));
            case 5: return x.elect(args[0]);
            case 6: return x.cut(args[0]);
            case 7: return x.copy(args[0], args[1]);
            case 8: return x.power(args[0], args[1] == 1);
            case 9: return x.deliver(args[0]);
            case 10: return number(x.tear(args[0]));
            case 11: return x.transaction(args[0], args[1]);
            case 12: return x.access(args[0], args[1], args[2]);
            case 13: return x.state(args[0], args[1], args[2]);
            case 14: return x.flag(args[0], args[1], args[2]);
            case 15: return x.chain(args[0], args[1]);
            case 16: return x.log(args[0], args[1], args[2]);
            default: return x.about(args[0]);
        }
    }

    int on(ModelLedger x) {
        switch (which) {
            case 0: return number(x.code(args[0], args[1], args[2]));
            case 1: return number(x.policy(args[0], args[1], args[2]));
            case 2: return x.propose(args[0], args[1]);
            case 3: return x.endorse(args[0], args[1]);
            case 4: return number(x.submit(args[0]));
            case 5: return x.elect(args[0]);
            case 6: return x.cut(args[0]);
            case 7: return x.copy(args[0], args[1]);
            case 8: return x.power(args[0], args[1] == 1);
            case 9: return x.deliver(args[0]);
            case 10: return number(x.tear(args[0]));
            case 11: return x.transaction(args[0], args[1]);
            case 12: return x.access(args[0], args[1], args[2]);
            case 13: return x.state(args[0], args[1], args[2]);
            case 14: return x.flag(args[0], args[1], args[2]);
            case 15: return x.chain(args[0], args[1]);
            case 16: return x.log(args[0], args[1], args[2]);
            default: return x.about(args[0]);
        }
    }

    private static int number(boolean answer) {
        return answer ? 1 : 0;
    }

    @Override
    public String toString() {
        return NAMES.get(which) + Arrays.toString(args);
    }
}
