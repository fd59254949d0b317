/** Ledgers as the tests need them, and runs of calls that several tests make. */
final class Ledgers {
    static final int NONE = EndorsedLedger.NONE;
    static final int PUSH = 0;
    static final int ARG = 1;
    static final int ADD = 2;
    static final int SUB = 3;
    static final int LESS = 4;
    static final int DUP = 5;
    static final int SKIP = 6;
    static final int GET = 7;
    static final int PUT = 8;
    static final int DELETE = 9;
    static final int SUM = 10;

    private Ledgers() {
    }

    /** A new ledger of which program 0 has these pairs of op and x. */
    static EndorsedLedger with(int... pairs) {
        EndorsedLedger ledger = new EndorsedLedger();
        add(ledger, 0, pairs);
        return ledger;
    }

    static void add(EndorsedLedger ledger, int program, int... pairs) {
        for (int i = 0; i < pairs.length; i += 2) {
            must(ledger.code(program, pairs[i], pairs[i + 1]));
        }
    }

    /** Program 0 writes its argument at key 1; peer 0 alone must endorse. */
    static EndorsedLedger writer() {
        EndorsedLedger ledger = with(PUSH, 1, ARG, 0, PUT, 0);
        must(ledger.policy(0, 0, 0));
        return ledger;
    }

    /** A new transaction of a program, endorsed by these peers. */
    static int endorsed(EndorsedLedger ledger, int program, int argument, int... peers) {
        int t = ledger.propose(program, argument);
        for (int p : peers) {
            must(ledger.endorse(t, p) == 0);
        }
        return t;
    }

    /** A new transaction of program 0, endorsed by peer 0, that waits. */
    static int waiting(EndorsedLedger ledger, int argument) {
        int t = endorsed(ledger, 0, argument, 0);
        must(ledger.submit(t));
        return t;
    }

    /** Orders these as one block of the chain, by leader 0 and with orderer 1, that have the same log. */
    static void order(EndorsedLedger ledger, int... transactions) {
        for (int t : transactions) {
            must(ledger.submit(t));
        }
        if (ledger.about(6) != 0) {
            must(ledger.elect(0) != NONE);
        }
        must(ledger.cut(0) == transactions.length);
        must(ledger.copy(0, 1) == 1);
    }

    /** A chain of so many blocks, each with one new transaction of the writer. */
    static EndorsedLedger writerWithChain(int blocks) {
        EndorsedLedger ledger = writer();
        for (int b = 0; b < blocks; b++) {
            order(ledger, endorsed(ledger, 0, 100 + b, 0));
        }
        return ledger;
    }

    static void must(boolean holds) {
        if (!holds) {
            throw new IllegalStateException("a call that prepares a test was refused");
        }
    }
}
