/** Promises 2 to 4: code, policy, propose. */
final class SetupTest {
    private static final int LEAST = Integer.MIN_VALUE;
    private static final int GREATEST = Integer.MAX_VALUE;
    private static final Check check = new Check();

    public static void main(String[] args) {
        codeRefusesWrongArguments();
        codeTakesAnyXWhereItDoesNotCount();
        codeTakesTwelve();
        codeEndsWithTheFirstProposal();
        policyRefusesWrongArguments();
        policyTakesNineRules();
        policyEndsWithTheFirstProposal();
        leavesAreMetByTheirPeer();
        joinedRulesAreMetByKOfThem();
        theTopRuleIsThePolicy();
        rulesNest();
        proposeNumbers();
        proposeRefuses();
        check.end();
    }

    private static void codeRefusesWrongArguments() {
        EndorsedLedger x = new EndorsedLedger();
        for (int program : new int[] {-1, 4, LEAST, GREATEST}) {
            check.no("code of program " + program, x.code(program, 0, 0));
        }
        for (int op : new int[] {-1, 11, LEAST, GREATEST}) {
            check.no("code of op " + op, x.code(0, op, 0));
        }
        for (int skip : new int[] {-1, 13, LEAST, GREATEST}) {
            check.no("code of SKIP " + skip, x.code(0, 6, skip));
        }
        int t = x.propose(0, 1);
        check.due("nothing that was refused runs", x.endorse(t, 0), 0);
    }

    private static void codeTakesAnyXWhereItDoesNotCount() {
        for (int op = 0; op <= 10; op++) {
            for (int any : new int[] {-1, 13, LEAST, GREATEST}) {
                check.due("code of op " + op + " with x " + any, new EndorsedLedger().code(0, op, any), op != 6);
            }
        }
        check.yes("SKIP 0", new EndorsedLedger().code(3, 6, 0));
        check.yes("SKIP 12", new EndorsedLedger().code(3, 6, 12));
        EndorsedLedger x = Ledgers.with(0, 2, 0, LEAST, 8, 77, 0, 3, 0, GREATEST, 8, -5);
        Ledgers.endorsed(x, 0, 0, 0);
        check.due("PUSH of the least int", x.access(0, 2, 4), LEAST);
        check.due("PUSH of the greatest int", x.access(0, 3, 4), GREATEST);
    }

    private static void codeTakesTwelve() {
        EndorsedLedger x = new EndorsedLedger();
        for (int key = 0; key < 6; key++) {
            check.yes("code PUSH", x.code(1, 0, key));
            check.yes("code DELETE", x.code(1, 9, 0));
        }
        check.no("the thirteenth", x.code(1, 0, 0));
        check.yes("another program", x.code(2, 1, 0));
        int t = Ledgers.endorsed(x, 1, 0, 0);
        check.due("all twelve ran", x.transaction(t, 5), 6);
        check.due("in their order", x.access(t, 5, 3), 2);
    }

    private static void codeEndsWithTheFirstProposal() {
        EndorsedLedger x = new EndorsedLedger();
        check.none("propose(4, 0)", x.propose(4, 0));
        check.yes("code after a refused proposal", x.code(0, 1, 0));
        check.due("propose(0, 0)", x.propose(0, 0), 0);
        check.no("code after a proposal", x.code(0, 1, 0));
        check.no("code of another program", x.code(3, 1, 0));
    }

    private static void policyRefusesWrongArguments() {
        EndorsedLedger x = new EndorsedLedger();
        for (int program : new int[] {-1, 4, LEAST, GREATEST}) {
            check.no("policy of program " + program, x.policy(program, 0, 0));
        }
        for (int peer : new int[] {-1, 4, LEAST, GREATEST}) {
            check.no("leaf for peer " + peer, x.policy(0, peer, 0));
        }
        for (int i = 0; i < 5; i++) {
            check.yes("leaf", x.policy(0, 0, 0));
        }
        for (int n : new int[] {-1, 1, 5, LEAST, GREATEST}) {
            check.no("policy with n " + n, x.policy(0, 1, n));
        }
        for (int n = 2; n <= 4; n++) {
            check.no("0 of " + n, x.policy(0, 0, n));
            check.no("-1 of " + n, x.policy(0, -1, n));
            check.no("n + 1 of " + n, x.policy(0, n + 1, n));
        }
        for (int n = 2; n <= 4; n++) {
            EndorsedLedger few = new EndorsedLedger();
            for (int i = 1; i < n; i++) {
                check.yes("leaf", few.policy(2, i - 1, 0));
            }
            check.no("too few for " + n, few.policy(2, 1, n));
            check.yes("leaf", few.policy(2, 3, 0));
            check.yes("enough for " + n, few.policy(2, n, n));
            check.no("they are one now", few.policy(2, 1, 2));
        }
    }

    private static void policyTakesNineRules() {
        EndorsedLedger x = new EndorsedLedger();
        for (int i = 0; i < 9; i++) {
            check.yes("leaf " + i, x.policy(3, i % 4, 0));
        }
        check.no("a tenth leaf", x.policy(3, 0, 0));
        check.no("a tenth rule of others", x.policy(3, 1, 2));
        check.yes("another program", x.policy(0, 0, 0));
        EndorsedLedger parts = new EndorsedLedger();
        int[] nine = {0, 0, 1, 0, 1, 2, 0, 0, 1, 0, 1, 2, 0, 0, 1, 0, 1, 4};
        for (int i = 0; i < nine.length; i += 2) {
            check.yes("rule " + i / 2, parts.policy(0, nine[i], nine[i + 1]));
        }
        check.no("parts count too", parts.policy(0, 0, 0));
    }

    private static void policyEndsWithTheFirstProposal() {
        EndorsedLedger x = new EndorsedLedger();
        check.yes("leaf", x.policy(0, 0, 0));
        check.yes("leaf", x.policy(0, 1, 0));
        check.due("propose(1, 0)", x.propose(1, 0), 0);
        check.no("leaf after a proposal", x.policy(0, 2, 0));
        check.no("joining after a proposal", x.policy(0, 1, 2));
        check.no("leaf of another program", x.policy(2, 0, 0));
    }

    /** Whether the policy that these pairs of k and n make is met by a set of peers, that is not empty. */
    private static boolean isMet(int set, int... pairs) {
        EndorsedLedger x = new EndorsedLedger();
        for (int i = 0; i < pairs.length; i += 2) {
            Ledgers.must(x.policy(1, pairs[i], pairs[i + 1]));
        }
        int t = x.propose(1, 0);
        for (int p = 0; p < 4; p++) {
            if ((set & 1 << p) != 0) {
                Ledgers.must(x.endorse(t, p) == 0);
            }
        }
        Ledgers.order(x, t);
        Ledgers.must(x.deliver(2) >= 0);
        return x.flag(2, 0, 0) == 0;
    }

    private static void leavesAreMetByTheirPeer() {
        for (int p = 0; p < 4; p++) {
            for (int set = 1; set < 16; set++) {
                check.due("leaf " + p + " by " + set, isMet(set, p, 0), (set & 1 << p) != 0);
            }
        }
    }

    private static void joinedRulesAreMetByKOfThem() {
        for (int set = 1; set < 16; set++) {
            for (int k = 1; k <= 2; k++) {
                check.due(k + " of 0 and 3 by " + set, isMet(set, 0, 0, 3, 0, k, 2), Integer.bitCount(set & 9) >= k);
            }
            for (int k = 1; k <= 3; k++) {
                boolean met = Integer.bitCount(set & 7) >= k;
                check.due(k + " of 0 .. 2 by " + set, isMet(set, 0, 0, 1, 0, 2, 0, k, 3), met);
            }
            for (int k = 1; k <= 4; k++) {
                boolean met = Integer.bitCount(set) >= k;
                check.due(k + " of 0 .. 3 by " + set, isMet(set, 0, 0, 1, 0, 2, 0, 3, 0, k, 4), met);
            }
            boolean twice = (set & 2) != 0;
            check.due("2 of the same leaf by " + set, isMet(set, 1, 0, 1, 0, 2, 2), twice);
        }
    }

    private static void theTopRuleIsThePolicy() {
        for (int set = 1; set < 16; set++) {
            check.due("leaf 2 on leaf 1", isMet(set, 1, 0, 2, 0), (set & 4) != 0);
            boolean both = (set & 12) == 12;
            check.due("the top ones are taken off", isMet(set, 0, 0, 1, 0, 2, 0, 3, 0, 2, 2), both);
        }
    }

    private static void rulesNest() {
        for (int set = 1; set < 16; set++) {
            boolean either = (set & 3) == 3 || (set & 12) == 12;
            check.due("either pair by " + set, isMet(set, 0, 0, 1, 0, 2, 2, 2, 0, 3, 0, 2, 2, 1, 2), either);
            boolean deep = (set & 8) != 0 && ((set & 4) != 0 || (set & 3) == 3);
            check.due("deep by " + set, isMet(set, 0, 0, 1, 0, 2, 2, 2, 0, 1, 2, 3, 0, 2, 2), deep);
        }
    }

    private static void proposeNumbers() {
        EndorsedLedger x = new EndorsedLedger();
        for (int t = 0; t < 60; t++) {
            check.due("propose", x.propose(t % 4, -t), t);
            check.due("its program", x.transaction(t, 0), t % 4);
            check.due("its argument", x.transaction(t, 1), -t);
            check.due("how many", x.about(9), t + 1);
        }
        check.none("the 61st", x.propose(0, 0));
        check.due("how many", x.about(9), 60);
    }

    private static void proposeRefuses() {
        EndorsedLedger x = new EndorsedLedger();
        for (int program : new int[] {-1, 4, LEAST, GREATEST}) {
            check.none("propose of program " + program, x.propose(program, 0));
        }
        check.due("how many", x.about(9), 0);
    }
}
