/** Promises 5, 13 and 14: endorse, and what transaction and access tell of it. */
final class EndorseTest {
    private static final int NONE = Ledgers.NONE;
    private static final int PUSH = Ledgers.PUSH;
    private static final int ARG = Ledgers.ARG;
    private static final int ADD = Ledgers.ADD;
    private static final int SUB = Ledgers.SUB;
    private static final int LESS = Ledgers.LESS;
    private static final int DUP = Ledgers.DUP;
    private static final int SKIP = Ledgers.SKIP;
    private static final int GET = Ledgers.GET;
    private static final int PUT = Ledgers.PUT;
    private static final int DELETE = Ledgers.DELETE;
    private static final int SUM = Ledgers.SUM;
    private static final int LEAST = Integer.MIN_VALUE;
    private static final int GREATEST = Integer.MAX_VALUE;
    private static final Check check = new Check();

    public static void main(String[] args) {
        arithmetic();
        skipping();
        stackLimits();
        emptyStack();
        reading();
        writing();
        ranges();
        thirdRange();
        ownWritesAreNotSeen();
        failedRunChangesNothing();
        otherResults();
        emptyRangesAreAlike();
        theFirstAndTheLastKey();
        runsLeaveNothingBehind();
        endorseRefuses();
        transactionTells();
        accessTells();
        check.end();
    }

    /** What a run pushes last, of a program that these pairs of op and x make. */
    private static int top(int argument, int... pairs) {
        EndorsedLedger x = Ledgers.with(PUSH, 3);
        Ledgers.add(x, 0, pairs);
        Ledgers.add(x, 0, PUT, 0);
        Ledgers.endorsed(x, 0, argument, 0);
        return x.access(0, 3, 4);
    }

    /** What endorse answers of a program that these pairs of op and x make, over an empty state. */
    private static int answer(int... pairs) {
        EndorsedLedger x = Ledgers.with(pairs);
        x.propose(0, 0);
        return x.endorse(0, 0);
    }

    private static void arithmetic() {
        check.due("PUSH", top(0, PUSH, -7), -7);
        check.due("ARG", top(41, ARG, 9), 41);
        check.due("ADD", top(5, PUSH, 30, ARG, 0, ADD, 0), 35);
        check.due("ADD wraps", top(1, PUSH, GREATEST, ARG, 0, ADD, 0), LEAST);
        check.due("SUB", top(5, PUSH, 30, ARG, 0, SUB, 0), 25);
        check.due("SUB wraps", top(1, PUSH, LEAST, ARG, 0, SUB, 0), GREATEST);
        check.due("LESS of 4 and 5", top(5, PUSH, 4, ARG, 0, LESS, 0), 1);
        check.due("LESS of 5 and 5", top(5, PUSH, 5, ARG, 0, LESS, 0), 0);
        check.due("LESS of 6 and 5", top(5, PUSH, 6, ARG, 0, LESS, 0), 0);
        check.due("LESS of far ones", top(GREATEST, PUSH, LEAST, ARG, 0, LESS, 0), 1);
        check.due("LESS of far ones", top(LEAST, PUSH, GREATEST, ARG, 0, LESS, 0), 0);
        check.due("DUP", top(21, ARG, 0, DUP, 0, ADD, 0), 42);
    }

    private static void skipping() {
        int[] body = {PUSH, 8, ARG, 0, SKIP, 2, PUSH, 1, ADD, 0};
        check.due("SKIP 2 on 0", top(0, body), 8);
        check.due("SKIP 2 on 1", top(1, body), 9);
        check.due("SKIP 2 on -1", top(-1, body), 9);
        check.due("SKIP 0 on 0", top(0, PUSH, 8, ARG, 0, SKIP, 0, PUSH, 1, ADD, 0), 9);
        check.due("SKIP leaves nothing on the stack", top(0, ARG, 0, PUSH, 0, SKIP, 0), 0);
        check.due("what is left out may be a SKIP", top(0, PUSH, 8, ARG, 0, SKIP, 1, SKIP, 12), 8);
        check.due("SKIP beyond the end", answer(PUSH, 0, SKIP, 12, ADD, 0), 0);
        check.due("SKIP at the end", answer(PUSH, 0, SKIP, 1), 0);
        check.due("SKIP 1 before a failure", answer(PUSH, 0, SKIP, 1, ADD, 0, ADD, 0), 1);
        check.due("a failure that is not left out", answer(PUSH, 1, SKIP, 12, ADD, 0), 1);
    }

    private static void stackLimits() {
        int[] eight = {PUSH, 1, PUSH, 1, PUSH, 1, PUSH, 1, PUSH, 1, PUSH, 1, PUSH, 1, PUSH, 1};
        check.due("eight ints", answer(eight), 0);
        check.due("a ninth by PUSH", answer(and(eight, PUSH, 1)), 1);
        check.due("a ninth by ARG", answer(and(eight, ARG, 0)), 1);
        check.due("a ninth by DUP", answer(and(eight, DUP, 0)), 1);
        check.due("GET at eight", answer(and(eight, GET, 0)), 0);
        check.due("SUM at eight", answer(and(eight, SUM, 0)), 0);
        check.due("eight again", answer(and(eight, ADD, 0, DUP, 0)), 0);
        check.due("nine again", answer(and(eight, ADD, 0, DUP, 0, DUP, 0)), 1);
        check.due("eight by DUP", answer(PUSH, 1, DUP, 0, DUP, 0, DUP, 0, DUP, 0, DUP, 0, DUP, 0, DUP, 0), 0);
    }

    private static int[] and(int[] first, int... more) {
        int[] all = java.util.Arrays.copyOf(first, first.length + more.length);
        System.arraycopy(more, 0, all, first.length, more.length);
        return all;
    }

    private static void emptyStack() {
        for (int op : new int[] {DUP, SKIP, GET, DELETE}) {
            check.due("op " + op + " with none", answer(op, 0), 1);
            check.due("op " + op + " with one", answer(PUSH, 1, op, 0), 0);
        }
        for (int op : new int[] {ADD, SUB, LESS, PUT, SUM}) {
            check.due("op " + op + " with none", answer(op, 0), 1);
            check.due("op " + op + " with one", answer(PUSH, 1, op, 0), 1);
            check.due("op " + op + " with two", answer(PUSH, 1, PUSH, 1, op, 0), 0);
        }
        for (int op : new int[] {PUT, DELETE, SKIP}) {
            int pops = op == PUT ? 2 : 1;
            int[] pushes = pops == 2 ? new int[] {PUSH, 1, PUSH, 1} : new int[] {PUSH, 1};
            check.due("op " + op + " pushes nothing", answer(and(pushes, op, 0, DUP, 0)), 1);
        }
    }

    /**
     * Program 0 writes its argument at the key of the same number, 1 is what is tested; peer 0 has applied
     * keys 2 (value 2, version 1), 5 (value 5, version 2) and 9 (value 9, version 3), peer 1 nothing.
     */
    private static EndorsedLedger filled(int... tested) {
        EndorsedLedger x = Ledgers.with(ARG, 0, ARG, 0, PUT, 0);
        Ledgers.add(x, 1, tested);
        Ledgers.must(x.policy(0, 0, 0) && x.policy(1, 0, 0));
        Ledgers.order(x, Ledgers.endorsed(x, 0, 2, 0), Ledgers.endorsed(x, 0, 5, 0), Ledgers.endorsed(x, 0, 9, 0));
        Ledgers.must(x.deliver(0) == 3);
        return x;
    }

    private static void reading() {
        EndorsedLedger x = filled(PUSH, 0, PUSH, 5 + 16, GET, 0, PUT, 0, PUSH, 1, PUSH, -7, GET, 0, PUT, 0, ARG, 0, GET, 0);
        int t = Ledgers.endorsed(x, 1, 8, 0);
        check.due("the value at 5, by 21", x.access(t, 0, 4), 5);
        check.due("the version at 5", x.access(t, 5, 0), 2);
        check.due("the value at 9, by -7", x.access(t, 1, 4), 9);
        check.due("the version at 9", x.access(t, 9, 0), 3);
        check.due("nothing at 8", x.access(t, 8, 0), 0);
        check.none("2 was not read", x.access(t, 2, 0));
        check.due("how many keys were read", x.transaction(t, 3), 3);
        int again = Ledgers.endorsed(x, 1, 5, 0);
        check.due("5 was read twice", x.transaction(again, 3), 2);
        check.due("no range was read", x.transaction(t, 4), 0);
        check.none("nor has 5 a version there", x.access(t, 5, 1));
    }

    private static void writing() {
        EndorsedLedger x = Ledgers.with(PUSH, 19, ARG, 0, PUT, 0, PUSH, -1, DELETE, 0, PUSH, 4, PUSH, 0, PUT, 0);
        int t = Ledgers.endorsed(x, 0, -1, 0);
        check.due("3 by 19 was written", x.access(t, 3, 3), 1);
        check.due("-1 was written", x.access(t, 3, 4), -1);
        check.due("15 by -1 was deleted", x.access(t, 15, 3), 2);
        check.due("no value there", x.access(t, 15, 4), 0);
        check.due("0 was written at 4", x.access(t, 4, 3), 1);
        check.due("0 is the value", x.access(t, 4, 4), 0);
        check.due("5 was not written", x.access(t, 5, 3), 0);
        check.due("no value at 5", x.access(t, 5, 4), 0);
        check.due("how many", x.transaction(t, 5), 3);
        EndorsedLedger last = Ledgers.with(PUSH, 1, PUSH, 7, PUT, 0, PUSH, 1, ARG, 0, PUT, 0);
        check.due("of two values the last", lastWritten(last, 4), 8);
        EndorsedLedger gone = Ledgers.with(PUSH, 1, PUSH, 7, PUT, 0, PUSH, 1, DELETE, 0);
        check.due("deleted last", lastWritten(gone, 3), 2);
        EndorsedLedger goneValue = Ledgers.with(PUSH, 1, PUSH, 7, PUT, 0, PUSH, 1, DELETE, 0);
        check.due("no value of a deleted key", lastWritten(goneValue, 4), 0);
        EndorsedLedger back = Ledgers.with(PUSH, 1, DELETE, 0, PUSH, 1, PUSH, 7, PUT, 0);
        check.due("written last", lastWritten(back, 3), 1);
    }

    private static int lastWritten(EndorsedLedger x, int what) {
        int t = Ledgers.endorsed(x, 0, 8, 0);
        check.due("a key written twice is one key", x.transaction(t, 5), 1);
        return x.access(t, 1, what);
    }

    private static void ranges() {
        EndorsedLedger x = filled(PUSH, 0, PUSH, 2 + 32, PUSH, 9, SUM, 0, PUT, 0, PUSH, 1, PUSH, 6, ARG, 0, SUM, 0, PUT, 0);
        int t = Ledgers.endorsed(x, 1, 5, 0);
        check.due("the sum of 2 .. 9", x.access(t, 0, 4), 16);
        check.due("the sum of none", x.access(t, 1, 4), 0);
        check.due("two ranges", x.transaction(t, 4), 2);
        check.due("2 in the first", x.access(t, 2, 1), 1);
        check.due("5 in the first", x.access(t, 5, 1), 2);
        check.due("9 in the first", x.access(t, 9, 1), 3);
        check.due("nothing at 3", x.access(t, 3, 1), 0);
        check.none("1 is not in it", x.access(t, 1, 1));
        check.none("10 is not in it", x.access(t, 10, 1));
        for (int key = 0; key < 16; key++) {
            check.none("an empty range has no key", x.access(t, key, 2));
            check.none("a range is not read by GET", x.access(t, key, 0));
        }
        int one = Ledgers.endorsed(x, 1, 6, 0);
        check.due("a range of one key", x.access(one, 6, 2), 0);
        check.none("5 is not in it", x.access(one, 5, 2));
        check.none("7 is not in it", x.access(one, 7, 2));
        int high = Ledgers.endorsed(x, 1, -1, 0);
        check.due("6 .. 15", x.access(high, 15, 2), 0);
        check.due("its sum", x.access(high, 1, 4), 9);
        EndorsedLedger wraps = filled(PUSH, 3, PUSH, GREATEST, PUT, 0, PUSH, 0, PUSH, 0, PUSH, 15, SUM, 0, PUT, 0);
        int first = Ledgers.endorsed(wraps, 1, 0, 0);
        Ledgers.order(wraps, first);
        Ledgers.must(wraps.deliver(0) == 1);
        int second = Ledgers.endorsed(wraps, 1, 0, 0);
        check.due("a sum wraps", wraps.access(second, 0, 4), GREATEST + 16 + 16);
    }

    private static void thirdRange() {
        int[] two = {PUSH, 5, DUP, 0, SUM, 0, PUSH, 1, SUM, 0};
        check.due("two ranges", answer(two), 0);
        check.due("a third range", answer(and(two, PUSH, 3, SUM, 0)), 1);
        check.due("a third range that is empty", answer(and(two, PUSH, 3, PUSH, 2, SUM, 0)), 1);
        int[] empty = {PUSH, 5, PUSH, 3, SUM, 0, PUSH, -1, SUM, 0};
        check.due("a third one after empty ones", answer(and(empty, DUP, 0, SUM, 0)), 1);
    }

    private static void ownWritesAreNotSeen() {
        EndorsedLedger x = filled(PUSH, 2, PUSH, 50, PUT, 0, PUSH, 5, DELETE, 0, PUSH, 0, PUSH, 2, PUSH, 5, SUM, 0, PUT, 0);
        int t = Ledgers.endorsed(x, 1, 0, 0);
        check.due("SUM sees the state", x.access(t, 0, 4), 7);
        check.due("with its versions", x.access(t, 2, 1), 1);
        EndorsedLedger y = filled(PUSH, 2, PUSH, 50, PUT, 0, PUSH, 0, PUSH, 2, GET, 0, PUT, 0);
        int u = Ledgers.endorsed(y, 1, 0, 0);
        check.due("GET sees the state", y.access(u, 0, 4), 2);
        check.due("the state is not changed", y.state(0, 2, 1), 2);
        check.due("the version is not changed", y.state(0, 2, 0), 1);
    }

    private static void failedRunChangesNothing() {
        EndorsedLedger x = filled(PUSH, 3, PUSH, 9, PUT, 0, PUSH, 5, GET, 0, SKIP, 1, ADD, 0);
        int t = x.propose(1, 0);
        check.due("a run that fails", x.endorse(t, 0), 1);
        check.due("no endorser", x.transaction(t, 2), 0);
        check.due("nothing read", x.transaction(t, 3), 0);
        check.due("nothing written", x.transaction(t, 5), 0);
        check.none("no result", x.access(t, 3, 3));
        check.no("nothing to submit", x.submit(t));
        check.due("the run of another peer", x.endorse(t, 1), 0);
        check.due("it fails again beside an endorser", x.endorse(t, 0), 1);
        check.due("one endorser", x.transaction(t, 2), 2);
        check.due("his result stays", x.access(t, 5, 0), 0);
        check.due("his writing stays", x.access(t, 3, 4), 9);
    }

    /** Peer 0 has another state than peers 1 and 2. */
    private static void differs(String what, int want, int... tested) {
        EndorsedLedger x = filled(tested);
        int t = x.propose(1, 4);
        check.due("the first endorser", x.endorse(t, 1), 0);
        int reads = x.transaction(t, 3);
        check.due(what, x.endorse(t, 0), want);
        check.due("endorsers", x.transaction(t, 2), want == 0 ? 3 : 2);
        check.due("the result stays", x.transaction(t, 3), reads);
        check.due("one more of the same", x.endorse(t, 2), 0);
        check.due("endorsers", x.transaction(t, 2), want == 0 ? 7 : 6);
    }

    private static void otherResults() {
        differs("the same result", 0, PUSH, 4, GET, 0, ARG, 0, PUT, 0);
        differs("the stack does not matter", 0, ARG, 0);
        differs("another version read", 2, PUSH, 5, GET, 0);
        differs("another version in a range", 2, PUSH, 4, PUSH, 6, SUM, 0);
        differs("another version in the second range", 2, PUSH, 3, DUP, 0, SUM, 0, PUSH, 9, SUM, 0);
        differs("another value written", 2, PUSH, 0, PUSH, 5, GET, 0, PUT, 0);
        differs("another key written", 2, PUSH, 5, GET, 0, DELETE, 0);
    }

    private static void emptyRangesAreAlike() {
        EndorsedLedger x = filled(ARG, 0, DUP, 0, PUSH, 1, SUB, 0, SUM, 0);
        int t = x.propose(1, 4);
        check.due("an empty range", x.endorse(t, 1), 0);
        check.due("one range", x.transaction(t, 4), 1);
        check.due("an empty range again", x.endorse(t, 0), 0);
    }

    private static void theFirstAndTheLastKey() {
        for (int key : new int[] {0, 15}) {
            EndorsedLedger x = Ledgers.with(ARG, 0, PUSH, 7, PUT, 0);
            Ledgers.add(x, 1, ARG, 0, GET, 0);
            Ledgers.add(x, 2, ARG, 0, ARG, 0, SUM, 0);
            Ledgers.add(x, 3, PUSH, 9, ARG, 0, GET, 0, PUT, 0);
            Ledgers.must(x.policy(0, 0, 0));
            int t = Ledgers.endorsed(x, 0, key, 0);
            check.due("one key was written", x.transaction(t, 5), 1);
            check.due("none was read", x.transaction(t, 3), 0);
            Ledgers.order(x, t);
            Ledgers.must(x.deliver(0) == 1);
            for (int program = 1; program < 4; program++) {
                int u = x.propose(program, key);
                check.due("over nothing", x.endorse(u, 1), 0);
                check.due("keys read", x.transaction(u, 3), program == 2 ? 0 : 1);
                check.due("over a version", x.endorse(u, 0), 2);
            }
        }
    }

    private static void runsLeaveNothingBehind() {
        EndorsedLedger x = Ledgers.with(ARG, 0, DUP, 0, DUP, 0, DUP, 0, DUP, 0, DUP, 0, DUP, 0, DUP, 0, GET, 0);
        Ledgers.add(x, 1, PUSH, 0, SKIP, 12);
        Ledgers.add(x, 2, PUSH, 5, DELETE, 0, PUSH, 3, DUP, 0, SUM, 0, DUP, 0, SUM, 0);
        Ledgers.add(x, 3, ADD, 0);
        for (int round = 0; round < 2; round++) {
            for (int program = 0; program < 4; program++) {
                int t = x.propose(program, round);
                int fails = program == 3 ? 1 : 0;
                check.due("the first run of program " + program, x.endorse(t, 0), fails);
                check.due("the second run of program " + program, x.endorse(t, 1), fails);
                check.due("keys read", x.transaction(t, 3), program == 0 ? 1 : 0);
                check.due("ranges", x.transaction(t, 4), program == 2 ? 2 : 0);
                check.due("keys written", x.transaction(t, 5), program == 2 ? 1 : 0);
            }
        }
    }

    private static void endorseRefuses() {
        EndorsedLedger x = Ledgers.writer();
        check.none("no transaction yet", x.endorse(0, 0));
        int t = x.propose(0, 7);
        for (int wrong : new int[] {-1, 1, 60, LEAST, GREATEST}) {
            check.none("transaction " + wrong, x.endorse(wrong, 0));
        }
        for (int wrong : new int[] {-1, 4, LEAST, GREATEST}) {
            check.none("peer " + wrong, x.endorse(t, wrong));
        }
        x.power(3, false);
        check.none("a peer that is down", x.endorse(t, 0));
        x.power(3, true);
        check.due("a peer that is up", x.endorse(t, 0), 0);
        check.none("an endorser already", x.endorse(t, 0));
        check.due("another peer", x.endorse(t, 3), 0);
        check.yes("submit", x.submit(t));
        check.none("a closed one", x.endorse(t, 1));
        check.due("endorsers", x.transaction(t, 2), 9);
        EndorsedLedger fails = Ledgers.with(ADD, 0);
        fails.propose(0, 0);
        fails.power(3, false);
        check.none("refused before it runs", fails.endorse(0, 0));
    }

    private static void transactionTells() {
        EndorsedLedger x = filled(PUSH, 2, GET, 0, PUSH, 3, SUM, 0, ARG, 0, DELETE, 0);
        int t = x.propose(1, -1);
        int[] before = {1, -1, 0, 0, 0, 0, 0};
        int[] after = {1, -1, 5, 1, 1, 1, 1};
        for (int what = 0; what <= 6; what++) {
            check.due("before, what " + what, x.transaction(t, what), before[what]);
        }
        Ledgers.must(x.endorse(t, 0) == 0);
        check.due("another result", x.endorse(t, 2), 2);
        check.due("not closed", x.transaction(t, 6), 0);
        Ledgers.order(x, Ledgers.endorsed(x, 0, 2, 0));
        Ledgers.must(x.deliver(2) == 3);
        check.due("the same result", x.endorse(t, 2), 0);
        Ledgers.must(x.submit(t));
        for (int what = 0; what <= 6; what++) {
            check.due("after, what " + what, x.transaction(t, what), after[what]);
        }
        for (int wrong : new int[] {-1, 7, LEAST, GREATEST}) {
            check.none("what " + wrong, x.transaction(t, wrong));
        }
        for (int wrong : new int[] {-1, 5, 60, LEAST, GREATEST}) {
            check.none("transaction " + wrong, x.transaction(wrong, 0));
        }
    }

    private static void accessTells() {
        EndorsedLedger x = filled(ARG, 0, PUSH, -1, PUT, 0);
        int t = x.propose(1, 0);
        for (int what = 0; what <= 4; what++) {
            check.none("without a result, what " + what, x.access(t, 0, what));
        }
        Ledgers.must(x.endorse(t, 3) == 0);
        int[] due = {NONE, NONE, NONE, 1, -1};
        for (int what = 0; what <= 4; what++) {
            check.due("what " + what, x.access(t, 0, what), due[what]);
        }
        for (int wrong : new int[] {-1, 5, LEAST, GREATEST}) {
            check.none("what " + wrong, x.access(t, 0, wrong));
        }
        for (int wrong : new int[] {-1, 16, LEAST, GREATEST}) {
            check.none("key " + wrong, x.access(t, wrong, 3));
        }
        for (int wrong : new int[] {-1, 4, 60, LEAST, GREATEST}) {
            check.none("transaction " + wrong, x.access(wrong, 0, 3));
        }
    }
}
