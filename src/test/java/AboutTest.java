/** Promise 19: about. */
final class AboutTest {
    private static final Check check = new Check();

    public static void main(String[] args) {
        everyNumberHasItsOwnPlace();
        wrongNumbers();
        check.end();
    }

    private static void everyNumberHasItsOwnPlace() {
        EndorsedLedger x = Ledgers.writer();
        x.power(2, false);
        x.elect(1);
        for (int b = 0; b < 13; b++) {
            Ledgers.waiting(x, b);
            x.cut(1);
        }
        x.power(2, true);
        copies(x, 1, 0, 11);
        copies(x, 1, 2, 9);
        x.power(0, false);
        x.elect(1);
        x.power(1, false);
        Ledgers.waiting(x, 14);
        Ledgers.waiting(x, 15);
        Ledgers.endorsed(x, 0, 16, 0);
        deliveries(x, 0, 10);
        deliveries(x, 1, 6);
        deliveries(x, 2, 3);
        x.power(4, false);
        int[] due = {1, 2, 2, 11, 13, 9, -1, 11, 2, 16, 10, 6, 3, 0, 8, 4, 0, 0, 4 + 8 + 32 + 64};
        for (int what = 0; what < due.length; what++) {
            check.due("about(" + what + ")", x.about(what), due[what]);
        }
        deliveries(x, 3, 5);
        check.due("stored by peer 3", x.about(13), 5);
        check.due("saved by peer 3", x.about(17), 4);
        x.power(1, true);
        x.elect(1);
        check.due("the leader", x.about(6), 1);
        check.due("who is up", x.about(18), 2 + 4 + 8 + 32 + 64);
    }

    private static void copies(EndorsedLedger x, int a, int b, int count) {
        for (int i = 0; i < count; i++) {
            Ledgers.must(x.copy(a, b) == 1);
        }
    }

    private static void deliveries(EndorsedLedger x, int p, int count) {
        for (int i = 0; i < count; i++) {
            Ledgers.must(x.deliver(p) >= 0);
        }
    }

    private static void wrongNumbers() {
        EndorsedLedger x = new EndorsedLedger();
        for (int wrong : new int[] {-1, 19, 20, 1000, Integer.MIN_VALUE, Integer.MIN_VALUE + 5, Integer.MAX_VALUE}) {
            check.none("about(" + wrong + ")", x.about(wrong));
        }
    }
}
