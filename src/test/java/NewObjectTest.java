/** Promise 1: a new object has no instructions, rules, transactions and blocks. */
final class NewObjectTest {
    private static final Check check = new Check();

    public static void main(String[] args) {
        constant();
        everythingIsEmpty();
        programsHaveNoInstructions();
        programsHaveNoRules();
        objectsAreApart();
        check.end();
    }

    private static void constant() {
        check.due("NONE", EndorsedLedger.NONE, -1);
    }

    private static void everythingIsEmpty() {
        EndorsedLedger x = new EndorsedLedger();
        for (int what = 0; what < 18; what++) {
            check.due("about(" + what + ")", x.about(what), what == 6 ? -1 : 0);
        }
        check.due("about(18)", x.about(18), 127);
        for (int p = 0; p < 4; p++) {
            for (int key = 0; key < 16; key++) {
                check.due("state version", x.state(p, key, 0), 0);
                check.due("state value", x.state(p, key, 1), 0);
            }
            check.none("flag", x.flag(p, 0, 0));
            check.none("deliver", x.deliver(p));
        }
        check.none("transaction(0, 0)", x.transaction(0, 0));
        check.none("access(0, 0, 3)", x.access(0, 0, 3));
        check.none("chain(0, NONE)", x.chain(0, -1));
        for (int o = 0; o < 3; o++) {
            check.none("log", x.log(o, 0, -1));
            check.none("cut", x.cut(o));
        }
    }

    private static void programsHaveNoInstructions() {
        EndorsedLedger x = new EndorsedLedger();
        for (int program = 0; program < 4; program++) {
            int t = x.propose(program, 5);
            check.due("endorse an empty program", x.endorse(t, 0), 0);
            for (int what = 3; what <= 5; what++) {
                check.due("an empty program's result", x.transaction(t, what), 0);
            }
        }
    }

    private static void programsHaveNoRules() {
        EndorsedLedger x = new EndorsedLedger();
        for (int program = 0; program < 4; program++) {
            check.no("k of 2 rules of none", x.policy(program, 1, 2));
        }
        Ledgers.order(x, Ledgers.endorsed(x, 0, 0, 0, 1, 2, 3));
        check.due("deliver(0)", x.deliver(0), 0);
        check.due("an empty pile is met by no set", x.flag(0, 0, 0), 1);
    }

    private static void objectsAreApart() {
        Ledgers.writerWithChain(3).deliver(0);
        everythingIsEmpty();
    }
}
