/** The edges of promise 19, about, and of the number of calls. */
final class AboutEdgesTest {
    private static final Check check = new Check();

    public static void main(String[] args) {
        noSuchWhat();
        everyWhatHasItsOwn();
        noLeader();
        noneUpAndAllUp();
        theLastCall();
        check.end();
    }

    private static void tell(String sentence, String rows) {
        Story.tell(check, sentence, rows);
    }

    private static void noSuchWhat() {
        tell("NONE for another what", """
            elect 0
            about -1 = NONE; about 19 = NONE; about MIN = NONE; about MAX = NONE; about 20 = NONE; about 32 = NONE
            about 0 = 1; about 18 = 127
            """);
    }

    /** Each has another number than those beside it, so that no group begins or ends one too early or too late. */
    private static void everyWhatHasItsOwn() {
        tell("0 .. 2, 3 .. 5, 6, 7, 8, 9, 10 .. 13, 14 .. 17, 18", """
            program 0: PUSH 1, ARG, PUT
            policy 0 0 0
            elect 1 = 1
            13 times: propose 0 #; endorse # 0; submit #; cut 1 = 1
            12 times: copy 1 2 = 1
            10 times: copy 1 0 = 1
            power 0 off; elect 1 = 2; elect 1 = 3
            4 times: propose 0 #; endorse #+13 0; submit #+13
            propose 0 0
            12 times: deliver 0 = 1
            9 times: deliver 1 = 1
            5 times: deliver 2 = 1
            2 times: deliver 3 = 1
            power 5 off
            about 0 = 1; about 1 = 3; about 2 = 3
            about 3 = 10; about 4 = 13; about 5 = 12
            about 6 = 1; about 7 = 12; about 8 = 4; about 9 = 18
            about 10 = 12; about 11 = 9; about 12 = 5; about 13 = 2
            about 14 = 12; about 15 = 8; about 16 = 4; about 17 = 0
            about 18 = 94
            """);
    }

    private static void noLeader() {
        tell("6: the leader, NONE if none", """
            about 6 = NONE; elect 0; about 6 = 0; elect 2; about 6 = 2; power 2 off; about 6 = NONE
            """);
    }

    private static void noneUpAndAllUp() {
        tell("18: 2 to the power of each orderer that is up, and of 3 plus each peer that is up, added up", """
            about 18 = 127
            power 0 off; about 18 = 126; power 1 off; about 18 = 124; power 2 off; about 18 = 120
            power 3 off; about 18 = 112; power 4 off; about 18 = 96; power 5 off; about 18 = 64; power 6 off; about 18 = 0
            power 0 on; about 18 = 1; power 6 on; about 18 = 65; power 3 on; about 18 = 73; power 2 on; about 18 = 77
            """);
    }

    private static void theLastCall() {
        tell("An object is used for at most 512 calls", """
            511 times: elect 0 = #+1
            about 2 = 511
            """);
        tell("An object is used for at most 512 calls", """
            power 2 off = 0
            508 times: elect 0 = #+1
            power 2 on = 0; copy 0 2 = 0; about 2 = 508
            """);
    }
}
