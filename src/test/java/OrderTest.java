/** Promises 6 to 9, 17 and 18, and 10 for orderers: submit, elect, cut, copy, chain, log, power. */
final class OrderTest {
    private static final int LEAST = Integer.MIN_VALUE;
    private static final int GREATEST = Integer.MAX_VALUE;
    private static final int[] WRONG_ORDERERS = {-1, 3, LEAST, GREATEST};
    private static final Check check = new Check();

    public static void main(String[] args) {
        submitCloses();
        submitRefuses();
        electRefuses();
        electRaisesTerms();
        electPutsAnotherOut();
        longerLogIsNewer();
        laterTermIsNewer();
        cutRefuses();
        cutTakesTheFirst();
        cutHasLimits();
        copyRefuses();
        copyBringsOneBlock();
        copyReplacesOtherBlocks();
        copyLeavesWhatIsOnlyAhead();
        copySetsTheTerm();
        onlyTheOwnTermIsAgreed();
        chainTells();
        logTells();
        orderersGoDownAndUp();
        check.end();
    }

    private static void submitCloses() {
        EndorsedLedger x = Ledgers.writer();
        int t = Ledgers.endorsed(x, 0, 5, 0);
        check.due("open", x.transaction(t, 6), 0);
        check.yes("submit", x.submit(t));
        check.due("closed", x.transaction(t, 6), 1);
        check.due("one waits", x.about(8), 1);
        check.yes("submit what waits", x.submit(t));
        check.due("two wait", x.about(8), 2);
        x.elect(0);
        x.cut(0);
        check.yes("submit what was ordered", x.submit(t));
        check.due("one waits", x.about(8), 1);
        check.due("still closed", x.transaction(t, 6), 1);
    }

    private static void submitRefuses() {
        EndorsedLedger x = Ledgers.writer();
        check.no("no transaction yet", x.submit(0));
        int t = Ledgers.endorsed(x, 0, 5, 0);
        int bare = x.propose(0, 6);
        check.no("without an endorser", x.submit(bare));
        check.due("not closed", x.transaction(bare, 6), 0);
        for (int wrong : new int[] {-1, 2, 60, LEAST, GREATEST}) {
            check.no("transaction " + wrong, x.submit(wrong));
        }
        for (int i = 0; i < 20; i++) {
            check.yes("submit " + i, x.submit(t));
        }
        check.no("20 wait", x.submit(t));
        check.due("20 wait", x.about(8), 20);
        check.due("endorse", x.endorse(bare, 0), 0);
        check.no("20 wait", x.submit(bare));
        check.due("it is not closed", x.transaction(bare, 6), 0);
        x.elect(0);
        check.due("cut", x.cut(0), 4);
        check.yes("16 wait", x.submit(bare));
        check.due("17 wait", x.about(8), 17);
    }

    private static void electRefuses() {
        EndorsedLedger x = new EndorsedLedger();
        for (int wrong : WRONG_ORDERERS) {
            check.none("elect " + wrong, x.elect(wrong));
        }
        x.power(0, false);
        check.none("it is down", x.elect(0));
        x.power(1, false);
        check.none("it is alone", x.elect(2));
        check.none("no leader", x.about(6));
        for (int o = 0; o < 3; o++) {
            check.due("no term", x.about(o), 0);
        }
        x.power(1, true);
        check.due("two are up", x.elect(2), 1);
        x.power(1, false);
        check.none("it is alone again", x.elect(2));
        check.due("and leader still", x.about(6), 2);
        check.due("in its term", x.about(2), 1);
    }

    private static void electRaisesTerms() {
        EndorsedLedger x = new EndorsedLedger();
        check.due("elect(0)", x.elect(0), 1);
        check.due("elect(0) again", x.elect(0), 2);
        terms(x, 2, 2, 2);
        x.power(2, false);
        check.due("elect(1)", x.elect(1), 3);
        terms(x, 3, 3, 2);
        x.power(2, true);
        x.power(1, false);
        check.due("elect(2)", x.elect(2), 4);
        terms(x, 4, 3, 4);
        x.power(1, true);
        x.power(0, false);
        check.due("the greatest term of those that are up", x.elect(1), 5);
        terms(x, 4, 5, 5);
    }

    private static void terms(EndorsedLedger x, int first, int second, int third) {
        check.due("term of 0", x.about(0), first);
        check.due("term of 1", x.about(1), second);
        check.due("term of 2", x.about(2), third);
    }

    private static void electPutsAnotherOut() {
        EndorsedLedger x = Ledgers.writer();
        Ledgers.waiting(x, 1);
        x.elect(0);
        check.due("leader", x.about(6), 0);
        x.elect(2);
        check.due("leader", x.about(6), 2);
        check.none("the other one cuts no more", x.cut(0));
        check.none("nor copies", x.copy(0, 1));
        check.due("the new one does", x.cut(2), 1);
    }

    /** 0 has A and B, 1 has A, 2 has nothing, all of term 1. */
    private static EndorsedLedger stairs() {
        EndorsedLedger x = Ledgers.writer();
        Ledgers.waiting(x, 1);
        x.elect(0);
        Ledgers.must(x.cut(0) == 1);
        Ledgers.must(x.copy(0, 1) == 1);
        Ledgers.waiting(x, 2);
        Ledgers.must(x.cut(0) == 1);
        return x;
    }

    private static void longerLogIsNewer() {
        EndorsedLedger x = stairs();
        check.none("both others are newer", x.elect(2));
        check.due("the leader stays", x.about(6), 0);
        check.due("one of the others is newer", x.elect(1), 2);
        x.power(0, false);
        check.none("the only other one is newer", x.elect(2));
        check.due("the only other one is not", x.elect(1), 3);
        check.due("the same length is not newer", twoAlike(), 2);
    }

    private static int twoAlike() {
        EndorsedLedger x = stairs();
        x.copy(0, 2);
        x.power(0, false);
        return x.elect(2);
    }

    private static void laterTermIsNewer() {
        EndorsedLedger x = shortButLater();
        check.none("longer, of an earlier term", x.elect(0));
        check.none("no leader of that", x.cut(0));
        check.due("the terms stay", x.about(0), 1);
        check.due("shorter, of a later term", x.elect(1), 3);
    }

    /** 0 has two blocks of term 1, 1 has one of term 2; 2 is down. */
    private static EndorsedLedger shortButLater() {
        EndorsedLedger x = Ledgers.writer();
        x.elect(0);
        for (int i = 0; i < 2; i++) {
            Ledgers.waiting(x, i);
            Ledgers.must(x.cut(0) == 1);
        }
        x.power(0, false);
        Ledgers.must(x.elect(1) == 2);
        Ledgers.waiting(x, 5);
        Ledgers.must(x.cut(1) == 1);
        x.power(0, true);
        x.power(2, false);
        return x;
    }

    private static void cutRefuses() {
        EndorsedLedger x = Ledgers.writer();
        Ledgers.waiting(x, 1);
        for (int wrong : WRONG_ORDERERS) {
            check.none("cut without a leader " + wrong, x.cut(wrong));
        }
        for (int o = 0; o < 3; o++) {
            check.none("no leader", x.cut(o));
        }
        x.elect(1);
        for (int wrong : WRONG_ORDERERS) {
            check.none("cut " + wrong, x.cut(wrong));
        }
        check.none("0 is not leader", x.cut(0));
        check.none("2 is not leader", x.cut(2));
        check.due("it waits still", x.about(8), 1);
        check.due("cut(1)", x.cut(1), 1);
        check.none("none waits", x.cut(1));
        check.due("one block", x.about(4), 1);
    }

    private static void cutTakesTheFirst() {
        EndorsedLedger x = Ledgers.writer();
        for (int i = 0; i < 7; i++) {
            Ledgers.waiting(x, i);
        }
        x.elect(2);
        x.elect(2);
        check.due("four", x.cut(2), 4);
        check.due("three wait", x.about(8), 3);
        check.yes("one more", x.submit(0));
        check.yes("one more", x.submit(1));
        check.due("four", x.cut(2), 4);
        check.due("one", x.cut(2), 1);
        check.due("none waits", x.about(8), 0);
        check.due("three blocks", x.about(5), 3);
        int[] members = {0, 1, 2, 3, 4, 5, 6, 0, 1};
        for (int i = 0; i < members.length; i++) {
            check.due("log(2, " + i / 4 + ", " + i % 4 + ")", x.log(2, i / 4, i % 4), members[i]);
        }
        check.due("the term", x.log(2, 0, -1), 2);
        check.due("not in the chain", x.about(7), 0);
    }

    private static void cutHasLimits() {
        EndorsedLedger x = Ledgers.writer();
        int t = Ledgers.endorsed(x, 0, 1, 0);
        x.elect(0);
        for (int i = 0; i < 40; i++) {
            x.submit(t);
            check.due("cut " + i, x.cut(0), 1);
        }
        check.yes("submit", x.submit(t));
        check.none("the log is full", x.cut(0));
        check.due("40 blocks", x.about(3), 40);
        check.due("it waits still", x.about(8), 1);
        x.power(0, false);
        x.elect(1);
        for (int i = 40; i < 60; i++) {
            check.due("cut " + i, x.cut(1), 1);
            x.submit(t);
        }
        check.none("60 were cut", x.cut(1));
        check.due("20 blocks", x.about(4), 20);
        check.due("it waits still", x.about(8), 1);
        x.power(0, true);
        for (int i = 0; i < 20; i++) {
            check.due("copy", x.copy(1, 0), 1);
        }
        check.due("20 of the other blocks", x.about(3), 20);
        check.due("20 in the chain", x.about(7), 20);
    }

    private static void copyRefuses() {
        EndorsedLedger x = Ledgers.writer();
        Ledgers.waiting(x, 1);
        check.none("no leader", x.copy(0, 1));
        check.none("no leader", x.copy(-1, 1));
        x.elect(1);
        x.cut(1);
        for (int wrong : WRONG_ORDERERS) {
            check.none("from " + wrong, x.copy(wrong, 0));
            check.none("to " + wrong, x.copy(1, wrong));
        }
        check.none("to itself", x.copy(1, 1));
        check.none("0 is not leader", x.copy(0, 1));
        check.none("0 is not leader", x.copy(0, 2));
        x.power(2, false);
        check.none("it is down", x.copy(1, 2));
        check.due("no block there", x.about(5), 0);
        check.due("no block there", x.about(3), 0);
        check.due("no chain", x.about(7), 0);
    }

    private static void copyBringsOneBlock() {
        EndorsedLedger x = Ledgers.writer();
        x.elect(0);
        check.due("nothing to copy", x.copy(0, 1), 0);
        for (int i = 0; i < 3; i++) {
            Ledgers.waiting(x, i);
            x.cut(0);
        }
        for (int i = 1; i <= 3; i++) {
            check.due("copy", x.copy(0, 2), 1);
            check.due("log of 2", x.about(5), i);
            check.due("its block", x.log(2, i - 1, 0), i - 1);
            check.due("its term", x.log(2, i - 1, -1), 1);
            check.due("the chain", x.about(7), i);
        }
        check.due("no more", x.copy(0, 2), 0);
        check.due("log of 2", x.about(5), 3);
        check.due("to another one", x.copy(0, 1), 1);
        check.due("the chain stays", x.about(7), 3);
    }

    private static void copyReplacesOtherBlocks() {
        EndorsedLedger x = shortButLater();
        x.elect(1);
        check.due("copy", x.copy(1, 0), 1);
        check.due("two are lost, one is added", x.about(3), 1);
        check.due("that of the leader", x.log(0, 0, 0), 2);
        check.due("with its term", x.log(0, 0, -1), 2);
        check.none("no more", x.log(0, 1, 0));
        EndorsedLedger y = stairs();
        y.elect(1);
        Ledgers.waiting(y, 7);
        y.cut(1);
        check.due("copy", y.copy(1, 0), 1);
        check.due("the first one stays", y.log(0, 0, 0), 0);
        check.due("the second one is another", y.log(0, 1, 0), 2);
        check.due("two blocks", y.about(3), 2);
        check.due("two in the chain", y.about(7), 2);
    }

    private static void copyLeavesWhatIsOnlyAhead() {
        EndorsedLedger x = stairs();
        x.copy(0, 2);
        check.due("elect(1)", x.elect(1), 2);
        check.due("0 is ahead", x.copy(1, 0), 0);
        check.due("it keeps both", x.about(3), 2);
        check.due("the second one", x.log(0, 1, 0), 1);
        check.due("the chain stays", x.about(7), 1);
        EndorsedLedger same = stairs();
        same.copy(0, 1);
        same.power(0, false);
        Ledgers.must(same.elect(1) == 2);
        Ledgers.must(same.copy(1, 2) == 1);
        check.due("the same block, cut in another term", same.copy(1, 2), 1);
        check.due("its term stays", same.log(2, 1, -1), 1);
    }

    private static void copySetsTheTerm() {
        EndorsedLedger x = Ledgers.writer();
        x.power(2, false);
        x.elect(0);
        x.elect(0);
        x.power(2, true);
        terms(x, 2, 2, 0);
        check.due("nothing is copied", x.copy(0, 2), 0);
        terms(x, 2, 2, 2);
    }

    private static void onlyTheOwnTermIsAgreed() {
        EndorsedLedger x = Ledgers.writer();
        x.elect(0);
        Ledgers.waiting(x, 1);
        x.cut(0);
        x.elect(0);
        check.due("copy of an older block", x.copy(0, 1), 1);
        check.due("not in the chain", x.about(7), 0);
        check.due("nor to the third", x.copy(0, 2), 1);
        check.due("not in the chain", x.about(7), 0);
        Ledgers.waiting(x, 2);
        x.cut(0);
        check.due("not by cutting", x.about(7), 0);
        check.due("copy of a newer block", x.copy(0, 2), 1);
        check.due("both are in the chain", x.about(7), 2);
        check.due("chain(0, 0)", x.chain(0, 0), 0);
        check.due("chain(1, 0)", x.chain(1, 0), 1);
    }

    private static void chainTells() {
        EndorsedLedger x = Ledgers.writer();
        int t = Ledgers.endorsed(x, 0, 1, 0);
        int u = Ledgers.endorsed(x, 0, 2, 0);
        Ledgers.order(x, t, u, t);
        Ledgers.order(x, u);
        check.due("three in block 0", x.chain(0, -1), 3);
        check.due("chain(0, 0)", x.chain(0, 0), t);
        check.due("chain(0, 1)", x.chain(0, 1), u);
        check.due("chain(0, 2)", x.chain(0, 2), t);
        check.due("one in block 1", x.chain(1, -1), 1);
        check.due("chain(1, 0)", x.chain(1, 0), u);
        for (int wrong : new int[] {-2, 3, 4, LEAST, GREATEST}) {
            check.none("place " + wrong, x.chain(0, wrong));
        }
        for (int wrong : new int[] {-1, 2, 40, LEAST, GREATEST}) {
            check.none("block " + wrong, x.chain(wrong, 0));
            check.none("block " + wrong, x.chain(wrong, -1));
        }
        x.submit(t);
        x.cut(0);
        check.none("a block that is only cut", x.chain(2, -1));
    }

    private static void logTells() {
        EndorsedLedger x = Ledgers.writer();
        int t = Ledgers.endorsed(x, 0, 1, 0);
        int u = Ledgers.endorsed(x, 0, 2, 0);
        Ledgers.order(x, t, u);
        x.elect(0);
        x.submit(u);
        x.cut(0);
        check.due("term of block 0", x.log(0, 0, -1), 1);
        check.due("log(0, 0, 0)", x.log(0, 0, 0), t);
        check.due("log(0, 0, 1)", x.log(0, 0, 1), u);
        check.due("term of block 1", x.log(0, 1, -1), 2);
        check.due("log(0, 1, 0)", x.log(0, 1, 0), u);
        check.due("log(1, 0, 1)", x.log(1, 0, 1), u);
        check.none("not in that log", x.log(1, 1, -1));
        check.none("not in that log", x.log(2, 0, -1));
        for (int wrong : new int[] {-2, 2, 4, LEAST, GREATEST}) {
            check.none("place " + wrong, x.log(0, 0, wrong));
        }
        for (int wrong : new int[] {-1, 2, 40, LEAST, GREATEST}) {
            check.none("block " + wrong, x.log(0, wrong, -1));
        }
        for (int wrong : WRONG_ORDERERS) {
            check.none("orderer " + wrong, x.log(wrong, 0, -1));
        }
        x.power(0, false);
        check.due("the log of one that is down", x.log(0, 1, -1), 2);
    }

    private static void orderersGoDownAndUp() {
        EndorsedLedger x = stairs();
        for (int wrong : new int[] {-1, 7, LEAST, LEAST + 2, GREATEST}) {
            check.none("node " + wrong, x.power(wrong, false));
            check.none("node " + wrong, x.power(wrong, true));
        }
        check.none("it is up", x.power(0, true));
        check.due("another one goes down", x.power(1, false), 0);
        check.due("the leader stays", x.about(6), 0);
        check.due("the leader goes down", x.power(0, false), 0);
        check.none("no leader", x.about(6));
        check.none("it is down", x.power(0, false));
        check.due("its term", x.about(0), 1);
        check.due("its log", x.about(3), 2);
        check.due("who is up", x.about(18), 124);
        check.due("it goes up", x.power(0, true), 0);
        check.none("no leader", x.about(6));
        check.none("it does not cut", x.cut(0));
        check.due("its term", x.about(0), 1);
        check.due("its log", x.about(3), 2);
        check.due("who is up", x.about(18), 125);
    }
}
