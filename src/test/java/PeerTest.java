/** Promises 11, 12, 15 and 16, and 10 for peers: deliver, tear, state, flag, power. */
final class PeerTest {
    private static final int PUSH = Ledgers.PUSH;
    private static final int ARG = Ledgers.ARG;
    private static final int GET = Ledgers.GET;
    private static final int PUT = Ledgers.PUT;
    private static final int DELETE = Ledgers.DELETE;
    private static final int SUM = Ledgers.SUM;
    private static final int LEAST = Integer.MIN_VALUE;
    private static final int GREATEST = Integer.MAX_VALUE;
    private static final int[] WRONG_PEERS = {-1, 4, LEAST, GREATEST};
    private static final Check check = new Check();

    public static void main(String[] args) {
        deliverApplies();
        deliverRefuses();
        versionsTellBlockAndPlace();
        versionsCountBlocksOfTheChain();
        deletingLeavesNothing();
        policyFlag();
        versionFlag();
        rangeFlag();
        secondRangeFlag();
        duplicateFlag();
        flagsHaveAnOrder();
        validOnesAlone();
        aVersionThatCameBack();
        peersGoTheirOwnWay();
        stateIsSavedEveryFour();
        comingBack();
        comingBackSaves();
        comingBackStartsFromWhatWasSaved();
        theFirstAndTheLastKey();
        tearing();
        tearRefuses();
        peersGoDownAndUp();
        stateTells();
        flagTells();
        theLongestChain();
        check.end();
    }

    /** Programs: 0 writes at key 1; 1 reads 1 and writes 2; 2 sums 0 .. 3 and writes 5; 3 deletes key 1. */
    private static EndorsedLedger four() {
        EndorsedLedger x = Ledgers.writer();
        Ledgers.add(x, 1, PUSH, 2, PUSH, 1, GET, 0, PUT, 0);
        Ledgers.add(x, 2, PUSH, 5, PUSH, 0, PUSH, 3, SUM, 0, PUT, 0);
        Ledgers.add(x, 3, PUSH, 1, DELETE, 0);
        for (int program = 1; program < 4; program++) {
            Ledgers.must(x.policy(program, 0, 0));
        }
        return x;
    }

    private static void flags(EndorsedLedger x, int p, int b, int... due) {
        for (int place = 0; place < due.length; place++) {
            check.due("flag(" + p + ", " + b + ", " + place + ")", x.flag(p, b, place), due[place]);
        }
    }

    private static void deliverApplies() {
        EndorsedLedger x = Ledgers.writerWithChain(2);
        check.due("deliver(3)", x.deliver(3), 1);
        check.due("stored", x.about(13), 1);
        check.due("the value", x.state(3, 1, 1), 100);
        check.due("the version", x.state(3, 1, 0), 1);
        check.due("no other key", x.state(3, 0, 0), 0);
        check.due("deliver(3)", x.deliver(3), 1);
        check.due("the value", x.state(3, 1, 1), 101);
        check.due("the version", x.state(3, 1, 0), 5);
        check.due("stored", x.about(13), 2);
        check.due("nothing saved", x.about(17), 0);
    }

    private static void deliverRefuses() {
        EndorsedLedger x = Ledgers.writerWithChain(1);
        for (int wrong : WRONG_PEERS) {
            check.none("deliver " + wrong, x.deliver(wrong));
        }
        x.power(3, false);
        check.none("it is down", x.deliver(0));
        check.due("nothing stored", x.about(10), 0);
        x.power(3, true);
        check.due("it is up", x.deliver(0), 1);
        check.none("no further block", x.deliver(0));
        check.due("one stored", x.about(10), 1);
        x.submit(0);
        x.cut(0);
        check.none("what is only cut is no further block", x.deliver(0));
    }

    private static void versionsTellBlockAndPlace() {
        EndorsedLedger x = Ledgers.with(ARG, 0, ARG, 0, PUT, 0);
        Ledgers.must(x.policy(0, 0, 0));
        for (int b = 0; b < 3; b++) {
            int[] block = new int[4];
            for (int place = 0; place < 4; place++) {
                block[place] = Ledgers.endorsed(x, 0, 4 * b + place, 0);
            }
            Ledgers.order(x, block);
            check.due("all are valid", x.deliver(1), 4);
        }
        for (int key = 0; key < 12; key++) {
            check.due("version", x.state(1, key, 0), 1 + key);
            check.due("value", x.state(1, key, 1), key);
        }
    }

    /** The first block that was cut is lost, so the number in the chain is another one than that of the cut. */
    private static void versionsCountBlocksOfTheChain() {
        EndorsedLedger x = Ledgers.writer();
        x.elect(0);
        Ledgers.waiting(x, 8);
        x.cut(0);
        x.power(0, false);
        x.elect(1);
        Ledgers.waiting(x, 9);
        x.cut(1);
        x.copy(1, 2);
        check.due("deliver", x.deliver(0), 1);
        check.due("the value", x.state(0, 1, 1), 9);
        check.due("the version", x.state(0, 1, 0), 1);
    }

    private static void deletingLeavesNothing() {
        EndorsedLedger x = four();
        Ledgers.order(x, Ledgers.endorsed(x, 0, 7, 0));
        x.deliver(0);
        check.due("the value", x.state(0, 1, 1), 7);
        Ledgers.order(x, Ledgers.endorsed(x, 3, 0, 0));
        check.due("deleting is valid", x.deliver(0), 1);
        check.due("no version", x.state(0, 1, 0), 0);
        check.due("no value", x.state(0, 1, 1), 0);
    }

    private static void policyFlag() {
        EndorsedLedger x = Ledgers.writer();
        Ledgers.order(x, Ledgers.endorsed(x, 0, 7, 1, 2, 3), Ledgers.endorsed(x, 0, 8, 0, 1));
        check.due("one is valid", x.deliver(1), 1);
        flags(x, 1, 0, 1, 0);
        check.due("the value of the second", x.state(1, 1, 1), 8);
    }

    private static void versionFlag() {
        EndorsedLedger x = four();
        int early = Ledgers.endorsed(x, 1, 0, 0);
        int late = Ledgers.endorsed(x, 1, 0, 0);
        int write = Ledgers.endorsed(x, 0, 7, 0);
        Ledgers.order(x, early, write, late);
        check.due("two are valid", x.deliver(0), 2);
        flags(x, 0, 0, 0, 0, 2);
        check.due("its version", x.state(0, 2, 0), 1);
        int read = Ledgers.endorsed(x, 1, 0, 0);
        int again = Ledgers.endorsed(x, 0, 7, 0);
        int tooLate = Ledgers.endorsed(x, 1, 0, 0);
        Ledgers.order(x, read);
        Ledgers.order(x, again);
        Ledgers.order(x, tooLate);
        for (int b = 1; b < 4; b++) {
            check.due("deliver", x.deliver(0), b < 3 ? 1 : 0);
            flags(x, 0, b, b < 3 ? 0 : 2);
        }
        check.due("its value", x.state(0, 2, 1), 7);
        check.due("its version", x.state(0, 2, 0), 5);
    }

    private static void rangeFlag() {
        EndorsedLedger x = four();
        int early = Ledgers.endorsed(x, 2, 0, 0);
        int late = Ledgers.endorsed(x, 2, 0, 0);
        Ledgers.order(x, early, Ledgers.endorsed(x, 0, 7, 0), late);
        check.due("two are valid", x.deliver(0), 2);
        flags(x, 0, 0, 0, 0, 3);
        int holds = Ledgers.endorsed(x, 2, 0, 0);
        check.due("the sum", x.access(holds, 5, 4), 7);
        int gone = Ledgers.endorsed(x, 2, 0, 0);
        Ledgers.order(x, holds, Ledgers.endorsed(x, 3, 0, 0), gone);
        check.due("two are valid", x.deliver(0), 2);
        flags(x, 0, 1, 0, 0, 3);
    }

    private static void secondRangeFlag() {
        EndorsedLedger x = Ledgers.writer();
        Ledgers.add(x, 1, PUSH, 5, PUSH, 4, SUM, 0, PUSH, 1, SUM, 0, PUSH, 3, GET, 0);
        Ledgers.must(x.policy(1, 0, 0));
        int t = Ledgers.endorsed(x, 1, 0, 0);
        check.due("two ranges", x.transaction(t, 4), 2);
        check.due("key 1 is in the second", x.access(t, 1, 2), 0);
        Ledgers.order(x, Ledgers.endorsed(x, 0, 7, 0), t);
        x.deliver(0);
        flags(x, 0, 0, 0, 3);
    }

    private static void duplicateFlag() {
        EndorsedLedger x = Ledgers.writer();
        int t = Ledgers.endorsed(x, 0, 7, 0);
        int u = Ledgers.endorsed(x, 0, 8, 0);
        int bad = Ledgers.endorsed(x, 0, 9, 1);
        Ledgers.order(x, t, u, t, bad);
        Ledgers.order(x, bad, t);
        Ledgers.order(x, u);
        check.due("two are valid", x.deliver(2), 2);
        check.due("none is valid", x.deliver(2), 0);
        check.due("none is valid", x.deliver(2), 0);
        flags(x, 2, 0, 0, 0, 4, 1);
        flags(x, 2, 1, 4, 4);
        flags(x, 2, 2, 4);
        check.due("the last valid one", x.state(2, 1, 1), 8);
        check.due("its version", x.state(2, 1, 0), 2);
    }

    private static void flagsHaveAnOrder() {
        EndorsedLedger x = Ledgers.writer();
        int[] both = {PUSH, 2, PUSH, 0, PUSH, 3, SUM, 0, PUT, 0, PUSH, 1, GET, 0};
        Ledgers.add(x, 1, both);
        Ledgers.add(x, 2, both);
        Ledgers.must(x.policy(1, 0, 0));
        int write = Ledgers.endorsed(x, 0, 7, 0);
        int reader = Ledgers.endorsed(x, 1, 0, 0);
        int without = Ledgers.endorsed(x, 2, 0, 0);
        Ledgers.order(x, write, reader, without, without);
        check.due("one is valid", x.deliver(0), 1);
        flags(x, 0, 0, 0, 2, 1, 4);
        Ledgers.order(x, reader);
        x.deliver(0);
        flags(x, 0, 1, 4);
    }

    private static void validOnesAlone() {
        EndorsedLedger x = four();
        int stale = Ledgers.endorsed(x, 1, 0, 0);
        int alsoStale = Ledgers.endorsed(x, 2, 0, 0);
        int third = Ledgers.endorsed(x, 1, 0, 0);
        Ledgers.order(x, Ledgers.endorsed(x, 0, 7, 0), stale, alsoStale, third);
        check.due("one is valid", x.deliver(0), 1);
        check.due("2 was not written", x.state(0, 2, 0), 0);
        check.due("5 was not written", x.state(0, 5, 0), 0);
        flags(x, 0, 0, 0, 2, 3, 2);
    }

    private static void aVersionThatCameBack() {
        EndorsedLedger x = four();
        int reader = Ledgers.endorsed(x, 1, 0, 0);
        Ledgers.order(x, Ledgers.endorsed(x, 0, 7, 0), Ledgers.endorsed(x, 3, 0, 0), reader);
        check.due("nothing is there again", x.deliver(0), 3);
        check.due("2 was written with what was read", x.state(0, 2, 1), 0);
        check.due("with its version", x.state(0, 2, 0), 3);
    }

    private static void peersGoTheirOwnWay() {
        EndorsedLedger x = Ledgers.writerWithChain(3);
        for (int p = 0; p < 4; p++) {
            for (int b = 0; b < p; b++) {
                check.due("deliver", x.deliver(p), 1);
            }
        }
        for (int p = 0; p < 4; p++) {
            check.due("stored", x.about(10 + p), p);
            check.due("value", x.state(p, 1, 1), p == 0 ? 0 : 99 + p);
            check.due("version", x.state(p, 1, 0), p == 0 ? 0 : 4 * p - 3);
        }
    }

    private static void stateIsSavedEveryFour() {
        EndorsedLedger x = Ledgers.writerWithChain(9);
        for (int height = 1; height <= 9; height++) {
            x.deliver(2);
            check.due("saved at " + height, x.about(16), height / 4 * 4);
            check.due("stored at " + height, x.about(12), height);
        }
    }

    private static void comingBack() {
        EndorsedLedger x = Ledgers.writerWithChain(7);
        for (int height = 0; height <= 7; height++) {
            check.due("down at " + height, x.power(3, false), 0);
            check.due("stored", x.about(10), height);
            check.due("saved", x.about(14), height / 4 * 4);
            check.due("up at " + height, x.power(3, true), height % 4);
            check.due("the value", x.state(0, 1, 1), height == 0 ? 0 : 99 + height);
            check.due("the version", x.state(0, 1, 0), height == 0 ? 0 : 4 * height - 3);
            for (int b = 0; b < height; b++) {
                flags(x, 0, b, 0);
            }
            check.due("deliver", x.deliver(0), height < 7 ? 1 : -1);
        }
    }

    private static void comingBackSaves() {
        EndorsedLedger x = Ledgers.writerWithChain(6);
        for (int i = 0; i < 3; i++) {
            x.deliver(1);
        }
        check.yes("tear", x.tear(1));
        check.due("nothing saved", x.about(15), 0);
        check.due("stored", x.about(11), 4);
        check.due("four are applied", x.power(4, true), 4);
        check.due("saved", x.about(15), 4);
        check.due("down", x.power(4, false), 0);
        check.due("none is applied", x.power(4, true), 0);
        check.due("the value", x.state(1, 1, 1), 103);
        check.due("deliver", x.deliver(1), 1);
        check.yes("tear", x.tear(1));
        check.due("two are applied", x.power(4, true), 2);
        check.due("saved", x.about(15), 4);
        check.due("the value", x.state(1, 1, 1), 105);
        check.due("the version", x.state(1, 1, 0), 21);
    }

    /** Each transaction adds 1 to key 3, so that a block over any other state than its own is flagged. */
    private static void comingBackStartsFromWhatWasSaved() {
        EndorsedLedger x = Ledgers.with(PUSH, 3, PUSH, 3, GET, 0, PUSH, 1, Ledgers.ADD, 0, PUT, 0);
        Ledgers.add(x, 1, PUSH, 9, ARG, 0, PUT, 0);
        Ledgers.must(x.policy(0, 0, 0) && x.policy(1, 0, 0));
        Ledgers.order(x, Ledgers.endorsed(x, 1, 77, 0));
        Ledgers.must(x.deliver(0) == 1 && x.deliver(1) == 1);
        for (int b = 1; b < 11; b++) {
            Ledgers.order(x, Ledgers.endorsed(x, 0, 0, 0));
            check.due("deliver(0)", x.deliver(0), 1);
            check.due("deliver(1)", x.deliver(1), 1);
            check.due("down", x.power(4, false), 0);
            check.due("up", x.power(4, true), (b + 1) % 4);
            flags(x, 1, b, 0);
            check.due("the count", x.state(1, 3, 1), b);
            check.due("its version", x.state(1, 3, 0), 4 * b + 1);
            check.due("what was written long ago", x.state(1, 9, 1), 77);
            check.due("its version", x.state(1, 9, 0), 1);
        }
    }

    private static void theFirstAndTheLastKey() {
        for (int key : new int[] {0, 15}) {
            EndorsedLedger x = Ledgers.with(ARG, 0, ARG, 0, PUT, 0);
            Ledgers.add(x, 1, ARG, 0, GET, 0);
            Ledgers.add(x, 2, ARG, 0, ARG, 0, SUM, 0);
            Ledgers.must(x.policy(0, 0, 0) && x.policy(1, 0, 0) && x.policy(2, 0, 0));
            int get = Ledgers.endorsed(x, 1, key, 0);
            int sum = Ledgers.endorsed(x, 2, key, 0);
            Ledgers.order(x, Ledgers.endorsed(x, 0, key, 0), get, sum);
            check.due("one is valid", x.deliver(0), 1);
            flags(x, 0, 0, 0, 2, 3);
            check.due("the value", x.state(0, key, 1), key);
            check.due("the version", x.state(0, key, 0), 1);
        }
    }

    private static void tearing() {
        EndorsedLedger x = Ledgers.writerWithChain(2);
        check.yes("tear", x.tear(3));
        check.due("stored", x.about(13), 1);
        check.due("who is up", x.about(18), 63);
        check.none("no state", x.state(3, 1, 0));
        check.none("no flag", x.flag(3, 0, 0));
        check.none("no deliver", x.deliver(3));
        check.due("up", x.power(6, true), 1);
        check.due("the value", x.state(3, 1, 1), 100);
        flags(x, 3, 0, 0);
        check.due("deliver the next one", x.deliver(3), 1);
        check.due("the value", x.state(3, 1, 1), 101);
    }

    private static void tearRefuses() {
        EndorsedLedger x = Ledgers.writerWithChain(1);
        for (int wrong : WRONG_PEERS) {
            check.no("tear " + wrong, x.tear(wrong));
        }
        x.power(4, false);
        check.no("it is down", x.tear(1));
        check.due("nothing stored", x.about(11), 0);
        x.power(4, true);
        x.deliver(1);
        check.no("no further block", x.tear(1));
        check.due("it is up", x.about(18), 127);
        check.due("one stored", x.about(11), 1);
    }

    private static void peersGoDownAndUp() {
        EndorsedLedger x = new EndorsedLedger();
        for (int p = 0; p < 4; p++) {
            check.none("it is up", x.power(3 + p, true));
            check.due("down", x.power(3 + p, false), 0);
            check.due("who is up", x.about(18), 127 - (8 << p));
            check.none("it is down", x.power(3 + p, false));
            check.none("no state", x.state(p, 0, 0));
            check.due("up", x.power(3 + p, true), 0);
            check.due("who is up", x.about(18), 127);
        }
    }

    private static void stateTells() {
        EndorsedLedger x = Ledgers.writer();
        Ledgers.order(x, Ledgers.endorsed(x, 0, -1, 0));
        x.deliver(0);
        check.due("the version", x.state(0, 1, 0), 1);
        check.due("a value of -1", x.state(0, 1, 1), -1);
        for (int wrong : new int[] {-1, 2, LEAST, GREATEST}) {
            check.none("what " + wrong, x.state(0, 1, wrong));
        }
        for (int wrong : new int[] {-1, 16, LEAST, GREATEST}) {
            check.none("key " + wrong, x.state(0, wrong, 0));
        }
        for (int wrong : WRONG_PEERS) {
            check.none("peer " + wrong, x.state(wrong, 1, 0));
        }
        check.due("key 0", x.state(0, 0, 0), 0);
        check.due("key 15", x.state(0, 15, 0), 0);
        x.power(3, false);
        check.none("it is down", x.state(0, 1, 0));
    }

    private static void flagTells() {
        EndorsedLedger x = Ledgers.writer();
        int t = Ledgers.endorsed(x, 0, 1, 0);
        Ledgers.order(x, t, t);
        Ledgers.order(x, t);
        check.none("not applied yet", x.flag(1, 0, 0));
        x.deliver(1);
        flags(x, 1, 0, 0, 4);
        check.none("not applied yet", x.flag(1, 1, 0));
        check.none("not by another one", x.flag(0, 0, 0));
        for (int wrong : new int[] {-2, -1, 2, 4, LEAST, GREATEST}) {
            check.none("place " + wrong, x.flag(1, 0, wrong));
        }
        for (int wrong : new int[] {-1, 2, 40, LEAST, GREATEST}) {
            check.none("block " + wrong, x.flag(1, wrong, 0));
        }
        for (int wrong : WRONG_PEERS) {
            check.none("peer " + wrong, x.flag(wrong, 0, 0));
        }
        x.power(4, false);
        check.none("it is down", x.flag(1, 0, 0));
        x.power(4, true);
        flags(x, 1, 0, 0, 4);
    }

    private static void theLongestChain() {
        EndorsedLedger x = Ledgers.writer();
        int first = Ledgers.endorsed(x, 0, 1, 0);
        for (int b = 0; b < 39; b++) {
            Ledgers.order(x, first);
        }
        Ledgers.order(x, first, first, first, Ledgers.endorsed(x, 0, 2, 0));
        check.due("the chain", x.about(7), 40);
        for (int b = 0; b < 39; b++) {
            check.due("deliver", x.deliver(0), b == 0 ? 1 : 0);
        }
        check.yes("tear", x.tear(0));
        check.due("36 were saved", x.power(3, true), 4);
        flags(x, 0, 38, 4);
        flags(x, 0, 39, 4, 4, 4, 0);
        check.due("the last version", x.state(0, 1, 0), 160);
        check.due("all are saved", x.about(14), 40);
        check.none("no further block", x.deliver(0));
        check.none("no block 40", x.flag(0, 40, 0));
    }
}
