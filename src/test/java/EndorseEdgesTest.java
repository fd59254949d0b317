/** The edges of promises 5, 13 and 14: endorse, transaction, access. */
final class EndorseEdgesTest {
    private static final Check check = new Check();

    public static void main(String[] args) {
        endorseNoTransaction();
        endorseByNoPeer();
        endorseAClosedOne();
        endorseByAPeerThatIsDown();
        endorseTwice();
        aRunThatFails();
        anotherVersionRead();
        theFirstAndTheLastKeyRead();
        anotherVersionInARange();
        anotherVersionInTheSecondRange();
        emptyRanges();
        transactionOfNoNumber();
        transactionOfNoWhat();
        transactionWithoutAResult();
        transactionCounts();
        transactionEndorsers();
        transactionClosed();
        accessOfNoTransaction();
        accessOfNoKey();
        accessOfNoWhat();
        accessWithoutAResult();
        accessVersions();
        accessWritings();
        check.end();
    }

    private static void tell(String sentence, String rows) {
        Story.tell(check, sentence, rows);
    }

    private static void endorseNoTransaction() {
        tell("Refused (NONE): there is no such transaction", """
            endorse 0 0 = NONE; endorse -1 0 = NONE
            propose 0 0 = 0; propose 0 0 = 1
            endorse -1 0 = NONE; endorse 2 0 = NONE; endorse 59 0 = NONE; endorse 60 0 = NONE
            endorse MIN 0 = NONE; endorse MAX 0 = NONE
            endorse 0 0 = 0; endorse 1 0 = 0
            """);
    }

    private static void endorseByNoPeer() {
        tell("Refused (NONE): there is no such peer", """
            propose 0 0 = 0
            endorse 0 -1 = NONE; endorse 0 4 = NONE; endorse 0 MIN = NONE; endorse 0 MAX = NONE; endorse 0 32 = NONE
            transaction 0 2 = 0
            endorse 0 0 = 0; endorse 0 3 = 0
            transaction 0 2 = 9
            """);
    }

    private static void endorseAClosedOne() {
        tell("Refused (NONE): t is closed", """
            program 0: ARG, DELETE
            policy 0 0 0
            propose 0 3; propose 0 3
            endorse 0 0 = 0; endorse 0 1 = 0; submit 0 = true
            endorse 0 2 = NONE; endorse 0 1 = NONE
            elect 0; cut 0; copy 0 1
            endorse 0 2 = NONE
            deliver 2 = 1
            endorse 0 2 = NONE
            transaction 0 2 = 3
            -- another one is open still
            endorse 1 2 = 0
            """);
    }

    private static void endorseByAPeerThatIsDown() {
        tell("Refused (NONE): p is down", """
            program 0: ARG, ARG, PUT
            policy 0 0 0
            propose 0 3 = 0
            power 3 off = 0; endorse 0 0 = NONE; endorse 0 3 = 0; power 6 off = 0
            endorse 0 1 = 0
            power 3 on = 0; endorse 0 0 = 0
            submit 0; elect 0; cut 0; copy 0 1
            propose 0 4 = 1
            tear 2 = true; endorse 1 2 = NONE
            power 5 on = 1; endorse 1 2 = 0
            """);
        tell("Refused, not 1: p is down, and its run would fail", """
            program 0: DELETE
            propose 0 0; power 3 off; endorse 0 0 = NONE; power 3 on; endorse 0 0 = 1
            """);
    }

    private static void endorseTwice() {
        tell("Refused (NONE): p is an endorser of t already", """
            propose 0 0; propose 0 0
            endorse 0 0 = 0; endorse 0 0 = NONE; transaction 0 2 = 1
            endorse 0 3 = 0; endorse 0 3 = NONE; endorse 0 0 = NONE; transaction 0 2 = 9
            endorse 0 1 = 0; endorse 0 2 = 0; transaction 0 2 = 15
            4 times: endorse 0 # = NONE
            endorse 1 0 = 0; transaction 1 2 = 1
            """);
        tell("Refused, not 2: p is an endorser of t already, and its result would be another one now", """
            program 0: PUSH 5, ARG, PUT
            program 1: PUSH 5, GET
            policy 0 0 0
            propose 1 0; endorse 0 0 = 0
            propose 0 7; endorse 1 0; submit 1; elect 0; cut 0; copy 0 1; deliver 0 = 1
            endorse 0 0 = NONE
            """);
    }

    private static void aRunThatFails() {
        tell("1, changing nothing, when the run fails", """
            program 0: PUSH 5, ARG, PUT
            program 1: PUSH 3, ARG, PUT, PUSH 5, GET, SKIP 1, DELETE
            policy 0 0 0
            propose 0 1; endorse 0 0; submit 0; elect 0; cut 0; copy 0 1; deliver 0 = 1
            propose 1 9 = 1
            -- it fails where something is at key 5
            endorse 1 0 = 1; endorse 1 0 = 1
            transaction 1 2 = 0; transaction 1 3 = 0; transaction 1 5 = 0; access 1 3 3 = NONE; submit 1 = false
            endorse 1 1 = 0
            -- 1 also when t has endorsers, whatever their result is
            endorse 1 0 = 1
            transaction 1 2 = 2; access 1 5 0 = 0; access 1 3 4 = 9
            """);
    }

    /** Key 5 is written in block 0 and, the same value, in block 1, and deleted in block 2; peer p has applied p blocks. */
    private static final String FOUR_HEIGHTS = """
        program 0: PUSH 5, ARG, PUT
        program 1: PUSH 5, GET
        program 2: PUSH 5, DELETE
        policy 0 0 0; policy 2 0 0
        propose 0 7; propose 0 7; propose 2 0
        elect 0
        3 times: endorse # 0; submit #; cut 0; copy 0 1
        deliver 1 = 1; deliver 2 = 1; deliver 2 = 1; deliver 3 = 1; deliver 3 = 1; deliver 3 = 1
        """;

    private static void anotherVersionRead() {
        String sentence = "2, changing nothing, when t has endorsers and its result is another one";
        tell(sentence, FOUR_HEIGHTS + """
            propose 1 0 = 3
            endorse 3 1 = 0
            endorse 3 0 = 2; endorse 3 2 = 2; endorse 3 3 = 2
            transaction 3 2 = 2; access 3 5 0 = 1
            deliver 0 = 1
            endorse 3 0 = 0
            transaction 3 2 = 3; access 3 5 0 = 1
            """);
        tell(sentence + ", not when it has none", FOUR_HEIGHTS + """
            propose 1 0; propose 1 0; propose 1 0; propose 1 0
            4 times: endorse #+3 # = 0; transaction #+3 3 = 1
            access 3 5 0 = 0; access 4 5 0 = 1; access 5 5 0 = 5; access 6 5 0 = 0
            """);
        tell(sentence + ": nothing there, and nothing there again, is the same", FOUR_HEIGHTS + """
            propose 1 0 = 3
            endorse 3 0 = 0; endorse 3 3 = 0; endorse 3 1 = 2; endorse 3 2 = 2
            transaction 3 2 = 9
            """);
    }

    private static void theFirstAndTheLastKeyRead() {
        for (int key : new int[] {0, 15}) {
            tell("its result is another one, with the version of key " + key, """
                program 0: ARG, ARG, PUT
                program 1: PUSH <key>, GET
                program 2: PUSH <key>, PUSH <key>, SUM
                program 3: PUSH 8, PUSH 7, SUM, DELETE, PUSH <key>, PUSH <key>, SUM
                policy 0 0 0
                propose 0 <key>; propose 1 0; propose 2 0; propose 3 0
                endorse 0 0; submit 0; elect 0; cut 0; copy 0 1; deliver 0 = 1
                3 times: endorse #+1 1 = 0; endorse #+1 0 = 2; endorse #+1 2 = 0
                """.replace("<key>", "" + key));
        }
    }

    /** Peer 0 has one key more than peer 1; the range is that from 4 to 6. */
    private static void anotherVersionInARange() {
        for (int key : new int[] {3, 4, 5, 6, 7}) {
            int due = key >= 4 && key <= 6 ? 2 : 0;
            tell("its result is another one, with the versions of a range from 4 to 6, written " + key, """
                program 0: ARG, ARG, PUT
                program 1: PUSH 4, PUSH 6, SUM
                policy 0 0 0
                propose 0 <key>; endorse 0 0; submit 0; elect 0; cut 0; copy 0 1; deliver 0 = 1
                propose 1 0; endorse 1 1 = 0; endorse 1 0 = <due>; endorse 1 2 = 0
                propose 1 0; endorse 2 0 = 0; endorse 2 1 = <due>
                """.replace("<key>", "" + key).replace("<due>", "" + due));
        }
    }

    private static void anotherVersionInTheSecondRange() {
        for (int key : new int[] {0, 1, 2, 3, 15}) {
            int due = key == 1 || key == 2 ? 2 : 0;
            tell("its result is another one, with the versions of a second range from 1 to 2, written " + key, """
                program 0: ARG, ARG, PUT
                program 1: PUSH 8, PUSH 9, SUM, DELETE, PUSH 1, PUSH 2, SUM
                policy 0 0 0
                propose 0 <key>; endorse 0 0; submit 0; elect 0; cut 0; copy 0 1; deliver 0 = 1
                propose 1 0; endorse 1 1 = 0; endorse 1 0 = <due>
                """.replace("<key>", "" + key).replace("<due>", "" + due));
        }
    }

    private static void emptyRanges() {
        tell("an empty range is the same over every state", """
            program 0: ARG, ARG, PUT
            program 1: PUSH 5, PUSH 4, SUM
            policy 0 0 0
            propose 0 4; propose 0 5; endorse 0 0; endorse 1 0; submit 0; submit 1; elect 0; cut 0; copy 0 1; deliver 0 = 2
            propose 1 0; endorse 2 0 = 0; endorse 2 1 = 0; transaction 2 4 = 1
            """);
    }

    private static void transactionOfNoNumber() {
        tell("NONE when there is no such transaction", """
            transaction 0 0 = NONE; transaction -1 0 = NONE
            propose 2 5; propose 3 6
            7 times: transaction -1 # = NONE; transaction 2 # = NONE; transaction 60 # = NONE
            transaction MIN 0 = NONE; transaction MAX 0 = NONE
            transaction 0 0 = 2; transaction 0 1 = 5; transaction 1 0 = 3; transaction 1 1 = 6
            """);
    }

    private static void transactionOfNoWhat() {
        tell("NONE when what is not 0 .. 6", """
            propose 2 5
            transaction 0 -1 = NONE; transaction 0 7 = NONE; transaction 0 MIN = NONE; transaction 0 MAX = NONE
            transaction 0 0 = 2; transaction 0 6 = 0
            """);
    }

    private static void transactionWithoutAResult() {
        tell("(3 to 5: 0 when it has no result.)", """
            program 0: ARG, GET, DELETE, ARG, ARG, SUM
            propose 0 5
            transaction 0 2 = 0; transaction 0 3 = 0; transaction 0 4 = 0; transaction 0 5 = 0; transaction 0 6 = 0
            endorse 0 0 = 0
            transaction 0 2 = 1; transaction 0 3 = 1; transaction 0 4 = 1; transaction 0 5 = 1; transaction 0 6 = 0
            """);
    }

    private static void transactionCounts() {
        tell("3: how many keys its result has read by GET; 4: how many ranges it has; 5: how many keys it has written", """
            program 0: PUSH 0, GET, PUSH 15, GET, PUSH 1, GET, PUSH 14, GET, PUSH 7, GET, PUSH 8, GET
            program 1: PUSH 0, DELETE, PUSH 15, DELETE, PUSH 1, DELETE, PUSH 14, DELETE, PUSH 7, DELETE, PUSH 8, DELETE
            program 2: PUSH 5, GET, PUSH 21, GET, PUSH 4, PUSH 1, PUT, PUSH 20, DELETE
            program 3: PUSH 0, PUSH 15, SUM, PUSH 15, SUM
            4 times: propose # 0; endorse # 0 = 0
            transaction 0 3 = 6; transaction 0 4 = 0; transaction 0 5 = 0
            transaction 1 3 = 0; transaction 1 4 = 0; transaction 1 5 = 6
            transaction 2 3 = 1; transaction 2 4 = 0; transaction 2 5 = 1
            transaction 3 3 = 0; transaction 3 4 = 2; transaction 3 5 = 0
            """);
    }

    private static void transactionEndorsers() {
        tell("2: its endorsers, 2 to the power of each peer added up", """
            5 times: propose 0 0
            endorse 0 0; endorse 1 1; endorse 2 2; endorse 3 3
            transaction 0 2 = 1; transaction 1 2 = 2; transaction 2 2 = 4; transaction 3 2 = 8; transaction 4 2 = 0
            4 times: endorse 4 #
            transaction 4 2 = 15
            """);
    }

    private static void transactionClosed() {
        tell("6: 1 when it is closed, else 0", """
            propose 0 0; propose 0 0
            transaction 0 6 = 0; submit 0 = false; transaction 0 6 = 0
            endorse 0 0; transaction 0 6 = 0; submit 0 = true; transaction 0 6 = 1; submit 0 = true; transaction 0 6 = 1
            elect 0; cut 0; copy 0 1; transaction 0 6 = 1; transaction 1 6 = 0
            """);
    }

    private static void accessOfNoTransaction() {
        tell("NONE when there is no such transaction", """
            access 0 0 3 = NONE; access -1 0 3 = NONE
            propose 0 0; propose 0 0; endorse 0 0; endorse 1 0
            access -1 0 3 = NONE; access 2 0 3 = NONE; access 60 0 3 = NONE; access MIN 0 3 = NONE; access MAX 0 3 = NONE
            access 0 0 3 = 0; access 1 0 3 = 0
            """);
    }

    private static void accessOfNoKey() {
        tell("NONE when there is no such key", """
            propose 0 0; endorse 0 0
            access 0 -1 3 = NONE; access 0 16 3 = NONE; access 0 MIN 3 = NONE; access 0 MAX 3 = NONE
            access 0 -1 4 = NONE; access 0 16 4 = NONE
            16 times: access 0 # 3 = 0; access 0 # 4 = 0
            """);
    }

    private static void accessOfNoWhat() {
        tell("NONE when what is not 0 .. 4", """
            program 0: ARG, ARG, PUT, ARG, GET
            propose 0 9; endorse 0 0
            access 0 9 -1 = NONE; access 0 9 5 = NONE; access 0 9 MIN = NONE; access 0 9 MAX = NONE
            access 0 9 0 = 0; access 0 9 4 = 9
            """);
    }

    private static void accessWithoutAResult() {
        tell("NONE when it has no result", """
            program 0: ARG, ARG, PUT, ARG, GET
            program 1: ARG, ARG, PUT, ADD
            propose 0 9; propose 1 9
            5 times: access 0 9 # = NONE; access 1 9 # = NONE
            endorse 0 0 = 0; endorse 1 0 = 1
            access 0 9 0 = 0; access 0 9 3 = 1
            5 times: access 1 9 # = NONE
            """);
    }

    private static void accessVersions() {
        tell("what 0: NONE if it was not read so; 1 and 2: NONE if that range is not there or does not have the key", """
            program 0: ARG, ARG, PUT
            program 1: PUSH 0, GET, PUSH 15, GET
            program 2: PUSH 0, PUSH 1, SUM
            program 3: PUSH 15, PUSH 15, SUM, DELETE, PUSH 0, PUSH 0, SUM
            policy 0 0 0
            propose 0 0; propose 0 15; endorse 0 0; endorse 1 0; submit 0; submit 1; elect 0; cut 0; copy 0 1; deliver 0 = 2
            propose 1 0; propose 2 0; propose 3 0
            endorse 2 0 = 0; endorse 3 0 = 0; endorse 4 0 = 0
            access 2 0 0 = 1; access 2 15 0 = 2; access 2 1 0 = NONE; access 2 14 0 = NONE
            access 2 0 1 = NONE; access 2 0 2 = NONE
            access 3 0 1 = 1; access 3 1 1 = 0; access 3 2 1 = NONE; access 3 15 1 = NONE
            access 3 0 0 = NONE; access 3 0 2 = NONE; access 3 1 2 = NONE
            access 4 15 1 = 2; access 4 14 1 = NONE; access 4 0 1 = NONE
            access 4 0 2 = 1; access 4 1 2 = NONE; access 4 15 2 = NONE
            """);
    }

    private static void accessWritings() {
        tell("3: 0 when the key was not written, 1 when a value was, 2 when nothing was; 4: the value written, 0 if none", """
            program 0: PUSH 0, PUSH MIN, PUT, PUSH 15, PUSH -1, PUT, PUSH 1, DELETE, PUSH 14, PUSH 0, PUT
            propose 0 0; endorse 0 0
            access 0 0 3 = 1; access 0 0 4 = MIN
            access 0 15 3 = 1; access 0 15 4 = -1
            access 0 1 3 = 2; access 0 1 4 = 0
            access 0 14 3 = 1; access 0 14 4 = 0
            12 times: access 0 #+2 3 = 0; access 0 #+2 4 = 0
            """);
    }
}
