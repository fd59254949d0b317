/** The edges of promises 1 to 4: a new object, code, policy, propose; and of rules. */
final class SetupEdgesTest {
    private static final Check check = new Check();

    public static void main(String[] args) {
        newObject();
        codeOfNoProgram();
        codeOfNoOp();
        codeOfSkip();
        codeWhereXDoesNotCount();
        codeTheThirteenth();
        codeAfterAProposal();
        policyOfNoProgram();
        policyOfNoN();
        policyOfNoPeer();
        policyOfNoK();
        policyOfTooFewRules();
        policyTheTenth();
        policyAfterAProposal();
        leavesAreMet();
        rulesAreMetByK();
        theTopOneIsThePolicy();
        theEmptyPile();
        theNTopOnesAreTaken();
        proposeOfNoProgram();
        proposeAnyArgument();
        proposeTheSixtyFirst();
        check.end();
    }

    private static void tell(String sentence, String rows) {
        Story.tell(check, sentence, rows);
    }

    private static void newObject() {
        tell("No instructions, rules, transactions, blocks.", """
            6 times: about # = 0
            about 6 = NONE; about 7 = 0; about 8 = 0; about 9 = 0
            8 times: about #+10 = 0
            about 18 = 127
            transaction 0 0 = NONE; access 0 0 3 = NONE; chain 0 NONE = NONE; flag 0 0 0 = NONE
            3 times: log # 0 NONE = NONE; cut # = NONE; copy # 0 = NONE; copy # 2 = NONE
            4 times: deliver # = NONE; tear # = false; policy # 1 2 = false
            endorse 0 0 = NONE; submit 0 = false
            16 times: state 0 # 0 = 0; state 0 # 1 = 0; state 3 # 0 = 0; state 3 # 1 = 0
            4 times: propose # 0 = #; endorse # 0 = 0; transaction # 3 = 0; transaction # 4 = 0; transaction # 5 = 0
            """);
    }

    private static void codeOfNoProgram() {
        tell("Refused: the program is not 0 .. 3", """
            code -1 ARG 0 = false; code 4 ARG 0 = false; code MIN ARG 0 = false; code MAX ARG 0 = false
            4 times: code # ARG 0 = true; code # DELETE 0 = true
            code -1 ARG 0 = false; code 4 ARG 0 = false
            4 times: propose # #+5; endorse # 0 = 0; access # #+5 3 = 2; transaction # 5 = 1
            """);
    }

    private static void codeOfNoOp() {
        tell("Refused: op is not 0 .. 10", """
            code 0 -1 0 = false; code 0 11 0 = false; code 0 MIN 0 = false; code 0 MAX 0 = false
            code 0 0 0 = true; code 0 0 5 = true; code 0 10 0 = true
            code 0 -1 0 = false; code 0 11 0 = false
            propose 0 0; endorse 0 0 = 0; transaction 0 4 = 1; access 0 5 1 = 0; access 0 6 1 = NONE
            """);
    }

    private static void codeOfSkip() {
        tell("Refused: SKIP's x is not 0 .. 12", """
            code 0 SKIP -1 = false; code 0 SKIP 13 = false; code 0 SKIP MIN = false; code 0 SKIP MAX = false
            code 0 PUSH 0 = true; code 0 SKIP 0 = true; code 0 PUSH 0 = true; code 0 SKIP 12 = true
            code 0 SKIP -1 = false; code 0 SKIP 13 = false
            code 0 ADD 0 = true
            propose 0 0; endorse 0 0 = 0
            """);
    }

    private static void codeWhereXDoesNotCount() {
        for (int x : new int[] {-1, 0, 12, 13, Integer.MIN_VALUE, Integer.MAX_VALUE}) {
            tell("x counts for PUSH (any int) and SKIP (0 .. 12) alone", """
                code 0 PUSH 1 = true; code 0 PUSH <x> = true; code 0 PUT <x> = true; code 0 ARG <x> = true
                code 0 DUP <x> = true; code 0 ADD <x> = true; code 0 ARG <x> = true; code 0 SUB <x> = true
                code 0 GET <x> = true; code 0 DUP <x> = true; code 0 LESS <x> = true; code 0 DELETE <x> = true
                code 1 ARG <x> = true; code 1 ARG <x> = true; code 1 SUM <x> = true
                propose 0 6 = 0; endorse 0 0 = 0; access 0 1 4 = <x>; access 0 6 0 = 0; access 0 0 3 = 2
                propose 1 6 = 1; endorse 1 0 = 0; access 1 6 1 = 0; transaction 1 4 = 1
                """.replace("<x>", "" + x));
        }
    }

    private static void codeTheThirteenth() {
        tell("Refused: the program has 12", """
            6 times: code 0 ARG 0 = true; code 0 DELETE 0 = true
            code 0 ARG 0 = false; code 0 DELETE 0 = false; code 0 SKIP 12 = false; code 0 -1 0 = false
            -- the others have room of their own
            6 times: code 3 PUSH # = true; code 3 DELETE 0 = true
            code 3 PUSH 0 = false
            propose 0 9; endorse 0 0 = 0; transaction 0 5 = 1; access 0 9 3 = 2
            propose 3 9; endorse 1 0 = 0; transaction 1 5 = 6; access 1 0 3 = 2; access 1 5 3 = 2
            """);
    }

    private static void codeAfterAProposal() {
        tell("Refused: a transaction was proposed", """
            code 0 ARG 0 = true
            -- a proposal that is refused is none
            propose 4 0 = NONE; propose -1 0 = NONE
            code 0 DELETE 0 = true
            propose 1 0 = 0
            -- one more DELETE would make each of them fail
            4 times: code # DELETE 0 = false; code # ARG 0 = false
            propose 0 5 = 1; endorse 1 0 = 0; transaction 1 5 = 1
            code 0 DELETE 0 = false
            propose 0 5 = 2; endorse 2 0 = 0; endorse 0 0 = 0
            """);
    }

    private static void policyOfNoProgram() {
        tell("Refused: the program is not 0 .. 3", """
            policy -1 0 0 = false; policy 4 0 0 = false; policy MIN 0 0 = false; policy MAX 0 0 = false
            4 times: policy # 0 0 = true; policy # 1 0 = true; policy # 2 2 = true
            policy -1 1 2 = false; policy 4 1 2 = false
            """);
    }

    private static void policyOfNoN() {
        tell("Refused: n is none of these (0, 2, 3 or 4)", """
            policy 0 0 0 = true; policy 0 1 0 = true; policy 0 2 0 = true; policy 0 3 0 = true; policy 0 0 0 = true
            policy 0 1 -1 = false; policy 0 1 1 = false; policy 0 1 5 = false
            policy 0 1 MIN = false; policy 0 1 MAX = false; policy 0 0 1 = false; policy 0 0 -1 = false
            policy 0 1 4 = true; policy 0 1 2 = true
            """);
        tell("When n is 0, 2, 3 or 4: true", """
            policy 0 0 0 = true; policy 0 0 0 = true; policy 0 1 2 = true
            policy 1 0 0 = true; policy 1 0 0 = true; policy 1 0 0 = true; policy 1 1 3 = true
            policy 2 0 0 = true; policy 2 0 0 = true; policy 2 0 0 = true; policy 2 0 0 = true; policy 2 1 4 = true
            """);
    }

    private static void policyOfNoPeer() {
        tell("Refused: k is not 0 .. 3 (n is 0)", """
            policy 0 -1 0 = false; policy 0 4 0 = false; policy 0 MIN 0 = false; policy 0 MAX 0 = false
            policy 0 0 0 = true; policy 0 3 0 = true
            policy 0 -1 0 = false; policy 0 4 0 = false
            """);
    }

    private static void policyOfNoK() {
        for (int n = 2; n <= 4; n++) {
            tell("Refused: k is not 1 .. n, n is " + n, """
                4 times: policy 0 # 0 = true
                policy 0 0 <n> = false; policy 0 -1 <n> = false; policy 0 MIN <n> = false; policy 0 MAX <n> = false
                policy 0 <more> <n> = false
                policy 0 1 <n> = true
                4 times: policy 1 # 0 = true
                policy 1 <n> <n> = true
                """.replace("<n>", "" + n).replace("<more>", "" + (n + 1)));
        }
    }

    private static void policyOfTooFewRules() {
        for (int n = 2; n <= 4; n++) {
            tell("Refused: there are fewer than n rules on the pile, n is " + n, """
                policy 0 1 <n> = false
                <fewer> times: policy 0 # 0 = true
                policy 0 1 <n> = false; policy 0 <n> <n> = false
                policy 0 3 0 = true; policy 0 <n> <n> = true
                -- they are one rule now
                policy 0 1 2 = false; policy 0 1 <n> = false
                -- the pile of another program does not help
                policy 1 1 <n> = false
                """.replace("<fewer>", "" + (n - 1)).replace("<n>", "" + n));
        }
    }

    private static void policyTheTenth() {
        String sentence = "Refused: 9 rules were made for this program (also such as are parts of others now)";
        tell(sentence, """
            8 times: policy 0 0 0 = true
            policy 0 3 0 = true
            policy 0 0 0 = false; policy 0 1 2 = false; policy 0 1 3 = false; policy 0 1 4 = false
            -- the others have room of their own
            9 times: policy 3 1 0 = true
            policy 3 1 0 = false
            """);
        tell(sentence, """
            policy 0 0 0 = true
            4 times: policy 0 # 0 = true; policy 0 1 2 = true
            policy 0 0 0 = false; policy 0 1 2 = false
            """);
        tell(sentence, """
            8 times: policy 0 0 0 = true
            policy 0 1 4 = true
            policy 0 0 0 = false; policy 0 1 2 = false
            """);
        tell(sentence + ", not such as were refused", """
            9 times: policy 0 4 0 = false; policy 0 1 2 = false; policy 0 1 1 = false
            9 times: policy 0 0 0 = true
            policy 0 0 0 = false
            """);
    }

    private static void policyAfterAProposal() {
        tell("Refused: a transaction was proposed", """
            policy 0 0 0 = true
            propose 4 0 = NONE; propose -1 0 = NONE
            policy 0 1 0 = true
            propose 1 0 = 0
            4 times: policy # 0 0 = false
            policy 0 1 2 = false
            """);
    }

    /** A story in which peer 3 flags a transaction of program 0 with these endorsers: VALID if they meet its policy. */
    private static void isMet(String sentence, String rules, int set, boolean due) {
        StringBuilder rows = new StringBuilder(rules + "\npropose 0 0\n");
        for (int p = 0; p < 4; p++) {
            if ((set & 1 << p) != 0) {
                rows.append("endorse 0 " + p + " = 0\n");
            }
        }
        rows.append("submit 0; elect 0; cut 0; copy 0 1; deliver 3 = " + (due ? 1 : 0));
        tell(sentence + ", by the set " + set, rows + "; flag 3 0 0 = " + (due ? 0 : 1));
    }

    private static void leavesAreMet() {
        for (int peer = 0; peer < 4; peer++) {
            for (int set = 1; set < 16; set++) {
                isMet("a LEAF for a peer 0 .. 3 is met by a set of peers that it is in", "policy 0 " + peer + " 0",
                    set, (set & 1 << peer) != 0);
            }
        }
    }

    private static void rulesAreMetByK() {
        String leaves = "";
        for (int n = 1; n <= 4; n++) {
            leaves += "policy 0 " + (n - 1) + " 0;";
            for (int k = 1; k <= n && n >= 2; k++) {
                for (int set = 1; set < 16; set++) {
                    boolean due = Integer.bitCount(set & (1 << n) - 1) >= k;
                    isMet("k OF n rules is met when at least k of them are", leaves + "policy 0 " + k + " " + n, set, due);
                }
            }
        }
    }

    private static void theTopOneIsThePolicy() {
        for (int set = 1; set < 16; set++) {
            isMet("its POLICY is the top one", "policy 0 1 0; policy 0 2 0", set, (set & 4) != 0);
            String joined = "policy 0 1 0; policy 0 2 0; policy 0 3 0; policy 0 2 2";
            isMet("its POLICY is the top one", joined, set, (set & 12) == 12);
        }
    }

    private static void theEmptyPile() {
        for (int set = 1; set < 16; set++) {
            isMet("with an empty pile it is met by no set", "policy 1 0 0; policy 2 0 0; policy 3 0 0", set, false);
        }
    }

    private static void theNTopOnesAreTaken() {
        String sentence = "the n top rules of it are taken off, and the rule \"k of\" them comes on top";
        for (int set = 1; set < 16; set++) {
            // 1 of 2 and 3 is joined with 1, and not with 0, that stays below
            String rules = "policy 0 0 0; policy 0 1 0; policy 0 2 0; policy 0 3 0; policy 0 1 2; policy 0 2 2";
            isMet(sentence, rules, set, (set & 2) != 0 && (set & 12) != 0);
            isMet(sentence, rules + "; policy 0 2 2", set, (set & 3) == 3 && (set & 12) != 0);
            String same = "policy 0 1 0; policy 0 1 0; policy 0 1 0; policy 0 1 0; policy 0 4 4";
            isMet(sentence + ", of the same leaf", same, set, (set & 2) != 0);
        }
    }

    private static void proposeOfNoProgram() {
        tell("Refused (NONE): the program is not 0 .. 3", """
            propose -1 0 = NONE; propose 4 0 = NONE; propose MIN 0 = NONE; propose MAX 0 = NONE
            about 9 = 0
            propose 0 0 = 0; propose 3 0 = 1
            propose -1 0 = NONE; propose 4 0 = NONE
            about 9 = 2; transaction 0 0 = 0; transaction 1 0 = 3
            """);
    }

    private static void proposeAnyArgument() {
        tell("A new transaction of a program with an argument; answers its number", """
            propose 0 MIN = 0; propose 1 MAX = 1; propose 2 -1 = 2; propose 3 0 = 3
            transaction 0 1 = MIN; transaction 1 1 = MAX; transaction 2 1 = -1; transaction 3 1 = 0
            4 times: transaction # 0 = #; transaction # 2 = 0; transaction # 6 = 0
            """);
    }

    private static void proposeTheSixtyFirst() {
        tell("Refused (NONE): there are 60", """
            59 times: propose 2 #+100 = #
            about 9 = 59
            propose 1 7 = 59
            about 9 = 60; transaction 59 0 = 1; transaction 59 1 = 7; transaction 60 0 = NONE
            4 times: propose # 0 = NONE
            about 9 = 60; transaction 60 0 = NONE
            endorse 59 0 = 0; endorse 60 0 = NONE; submit 59 = true; submit 60 = false
            """);
    }
}
