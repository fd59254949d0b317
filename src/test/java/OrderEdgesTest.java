/** The edges of promises 6 to 9, 17 and 18: submit, elect, cut, copy, chain, log; and of waiting, blocks and logs. */
final class OrderEdgesTest {
    /** Transaction 0, endorsed: it may be submitted as often as a story needs it. Transactions 1 .. 9 likewise. */
    private static final String TEN = """
        program 0: PUSH 1, ARG, PUT
        policy 0 0 0
        10 times: propose 0 #+100; endorse # 0 = 0
        """;
    private static final Check check = new Check();

    public static void main(String[] args) {
        submitNoTransaction();
        submitWithoutAnEndorser();
        submitTheTwentyFirst();
        submitAgain();
        electNoOrderer();
        electOneThatIsDown();
        electOneAlone();
        electWithNewerOnes();
        noLogIsNewerThanAnotherEmptyOne();
        anEmptyLogHasTermZero();
        theTermOfTheLogCounts();
        theLongerLogIsNewer();
        theGreaterTermIsNewer();
        electRaisesTheTermsOfThoseThatAreUp();
        atMostOneIsLeader();
        cutByNoOrderer();
        cutByNoLeader();
        cutWhenNoneWaits();
        cutOneToFour();
        cutWithAFullLog();
        cutTheSixtyFirst();
        copyOfNoOrderer();
        copyToItself();
        copyByNoLeader();
        copyToOneThatIsDown();
        copyOfNothing();
        copyWhenBIsAhead();
        copyWhenBothGoOn();
        copyKeepsTheTermOfABlock();
        copySetsTheTermInAnyCase();
        copyOfAFullLog();
        theChainGrowsByTheOwnTerm();
        theChainNeedsAnother();
        theChainGrowsOnly();
        chainOfNoBlock();
        chainOfNoPlace();
        logOfNoOrderer();
        logOfNoBlock();
        logOfNoPlace();
        check.end();
    }

    private static void tell(String sentence, String rows) {
        Story.tell(check, sentence, rows);
    }

    private static void submitNoTransaction() {
        tell("Refused: there is no such transaction", """
            submit 0 = false; submit -1 = false
            propose 0 0; propose 0 0; endorse 0 0; endorse 1 0
            submit -1 = false; submit 2 = false; submit 59 = false; submit 60 = false; submit MIN = false; submit MAX = false
            about 8 = 0
            submit 0 = true; submit 1 = true
            about 8 = 2
            """);
    }

    private static void submitWithoutAnEndorser() {
        tell("Refused: it has no endorser", """
            program 1: ADD
            propose 0 0; propose 1 0
            submit 0 = false; transaction 0 6 = 0
            endorse 1 0 = 1; submit 1 = false; transaction 1 6 = 0
            endorse 0 3 = 0; submit 0 = true; transaction 0 6 = 1
            about 8 = 1
            """);
    }

    private static void submitTheTwentyFirst() {
        tell("Refused: 20 wait", TEN + """
            19 times: submit 0 = true
            about 8 = 19; submit 1 = true; about 8 = 20
            submit 2 = false; submit 0 = false; about 8 = 20
            -- it is not closed
            transaction 2 6 = 0; endorse 2 1 = 0
            elect 0; cut 0 = 4; about 8 = 16
            4 times: submit #+2 = true
            submit 6 = false; about 8 = 20
            5 times: cut 0 = 4
            cut 0 = NONE
            log 0 4 3 = 1; log 0 5 0 = 2; log 0 5 3 = 5
            """);
    }

    private static void submitAgain() {
        tell("at the end of the list (also if it waits, or was ordered, already)", TEN + """
            submit 0 = true; submit 1 = true; submit 0 = true; about 8 = 3
            elect 0; cut 0 = 3; copy 0 1
            log 0 0 0 = 0; log 0 0 1 = 1; log 0 0 2 = 0
            submit 1 = true; submit 0 = true; about 8 = 2
            cut 0 = 2; log 0 1 0 = 1; log 0 1 1 = 0
            """);
    }

    private static void electNoOrderer() {
        tell("Refused (NONE): there is no such orderer", """
            elect -1 = NONE; elect 3 = NONE; elect MIN = NONE; elect MAX = NONE
            about 6 = NONE
            elect 0 = 1; elect -1 = NONE; elect 3 = NONE; about 6 = 0
            elect 2 = 2; about 6 = 2
            """);
    }

    private static void electOneThatIsDown() {
        tell("Refused (NONE): it is down", """
            power 0 off; elect 0 = NONE; about 6 = NONE; elect 1 = 1; elect 0 = NONE; about 6 = 1
            power 0 on; elect 0 = 2; about 6 = 0
            """);
    }

    private static void electOneAlone() {
        tell("Refused (NONE): they are not 2", """
            power 0 off; elect 1 = 1; elect 2 = 2
            power 1 off; elect 2 = NONE; elect 1 = NONE; elect 0 = NONE
            about 6 = 2; about 2 = 2
            power 2 off; elect 2 = NONE
            power 1 on; elect 1 = NONE
            power 2 on; elect 1 = 3
            """);
    }

    /** 0 has two blocks of term 1, 1 the first of them, 2 none. */
    private static final String STAIRS = TEN + """
        elect 0 = 1; submit 0; cut 0 = 1; copy 0 1 = 1; submit 1; cut 0 = 1
        """;

    private static void electWithNewerOnes() {
        String sentence = "it and others that are up, and whose logs are not newer than its own, are 2 at least";
        tell(sentence + ": both others are newer", STAIRS + "elect 2 = NONE; about 6 = 0; about 2 = 1");
        tell(sentence + ": one other is newer", STAIRS + "elect 1 = 2; about 6 = 1; about 0 = 2; about 2 = 2");
        tell(sentence + ": no other is newer", STAIRS + "elect 0 = 2");
        tell(sentence + ": the one that is not newer is down", STAIRS + "power 2 off; elect 1 = NONE; elect 0 = 2");
        tell(sentence + ": the one that is newer is down", STAIRS + "power 0 off; elect 2 = NONE; elect 1 = 2");
    }

    private static void noLogIsNewerThanAnotherEmptyOne() {
        tell("NEWER: two empty logs", "power 2 off; elect 0 = 1; elect 1 = 2; power 0 off; power 2 on; elect 2 = 3");
        tell("NEWER: two logs of the same length and last term", STAIRS + """
            copy 0 1 = 1; power 2 off
            elect 1 = 2; elect 0 = 3
            """);
    }

    private static void anEmptyLogHasTermZero() {
        tell("its last block's term is greater (0 for an empty log)", TEN + """
            elect 0 = 1; submit 0; cut 0 = 1; power 1 off
            elect 2 = NONE; elect 0 = 2
            """);
    }

    /** 1 has a term above that of 0, and an empty log: the terms of blocks count, not those of orderers. */
    private static void theTermOfTheLogCounts() {
        tell("A log is NEWER than another one when its last block's term is greater", TEN + """
            elect 0 = 1; submit 0; cut 0 = 1; power 0 off
            elect 1 = 2; power 2 off; power 0 on
            about 0 = 1; about 1 = 2
            elect 1 = NONE; about 6 = 1
            elect 0 = 3; about 6 = 0
            """);
    }

    private static void theLongerLogIsNewer() {
        String sentence = "or equal and the log is longer";
        tell(sentence, STAIRS + "power 2 off; elect 1 = NONE; elect 0 = 2");
        tell(sentence, STAIRS + "copy 0 2 = 1; power 0 off; elect 1 = 2; elect 2 = 3");
        tell(sentence + ": the last term is equal, the first ones are not", TEN + """
            elect 0 = 1; submit 0; cut 0; elect 0 = 2; submit 1; cut 0; submit 2; cut 0
            copy 0 1 = 1; copy 0 1 = 1; power 2 off
            elect 1 = NONE; copy 0 1 = 1; elect 1 = 3
            """);
    }

    /** 0 has two blocks of term 1, 1 has one of term 2, 2 is down with none. */
    private static final String SHORT_BUT_LATER = TEN + """
        elect 0 = 1; submit 0; cut 0; submit 1; cut 0; power 0 off
        elect 1 = 2; submit 2; cut 1 = 1; power 0 on; power 2 off
        """;

    private static void theGreaterTermIsNewer() {
        tell("its last block's term is greater, though the log is shorter", SHORT_BUT_LATER + """
            about 3 = 2; about 4 = 1
            elect 0 = NONE; about 6 = 1
            elect 1 = 3
            """);
        tell("its last block's term counts, and no other's", TEN + """
            -- both logs begin with term 1; 0 goes on with term 1 twice, 1 with term 2 once
            elect 0 = 1; submit 0; cut 0; copy 0 1 = 1; submit 1; cut 0; submit 2; cut 0; power 0 off
            elect 1 = 2; submit 3; cut 1 = 1; power 0 on; power 2 off
            elect 0 = NONE; elect 1 = 3
            """);
    }

    private static void electRaisesTheTermsOfThoseThatAreUp() {
        tell("the term of every orderer that is up becomes 1 more than the greatest term that any orderer that is up has", """
            power 2 off; elect 0 = 1; about 0 = 1; about 1 = 1; about 2 = 0
            elect 0 = 2; about 0 = 2; about 1 = 2; about 2 = 0
            power 2 on; about 2 = 0
            -- the greatest term is that of 1, and then that of 2, and not of the one that becomes leader
            power 0 off; elect 2 = 3; about 0 = 2; about 1 = 3; about 2 = 3
            power 0 on; power 1 off; elect 0 = 4; about 0 = 4; about 1 = 3; about 2 = 4
            -- that of 0
            power 1 on; power 2 off; elect 1 = 5; about 0 = 5; about 1 = 5; about 2 = 4
            """);
    }

    private static void atMostOneIsLeader() {
        tell("At most one orderer is LEADER; none at first", TEN + """
            about 6 = NONE; submit 0; submit 0
            3 times: cut # = NONE; copy # 0 = NONE; copy # 2 = NONE
            elect 0 = 1; about 6 = 0; elect 1 = 2; about 6 = 1
            cut 0 = NONE; copy 0 1 = NONE; copy 0 2 = NONE
            cut 1 = 2; copy 1 0 = 1
            """);
    }

    private static void cutByNoOrderer() {
        tell("Refused (NONE): there is no such orderer", TEN + """
            submit 0
            -- also while there is no leader, and NONE is no orderer
            cut -1 = NONE; cut 3 = NONE; cut MIN = NONE; cut MAX = NONE
            elect 0; cut -1 = NONE; cut 3 = NONE; about 8 = 1; cut 0 = 1
            elect 2; submit 0; cut 3 = NONE; cut 2 = 1
            """);
    }

    private static void cutByNoLeader() {
        tell("Refused (NONE): it is not leader", TEN + """
            submit 0; cut 0 = NONE; cut 1 = NONE; cut 2 = NONE
            elect 1; cut 0 = NONE; cut 2 = NONE; about 8 = 1; about 3 = 0; about 5 = 0
            power 1 off; cut 1 = NONE; power 1 on; cut 1 = NONE
            elect 1; cut 1 = 1; about 8 = 0
            """);
    }

    private static void cutWhenNoneWaits() {
        tell("Refused (NONE): none waits", TEN + """
            elect 0; cut 0 = NONE; about 3 = 0
            submit 0; cut 0 = 1; cut 0 = NONE; about 3 = 1
            """);
    }

    private static void cutOneToFour() {
        for (int waiting = 1; waiting <= 9; waiting++) {
            int first = Math.min(waiting, 4);
            int second = Math.min(waiting - first, 4);
            tell("takes the first transactions that wait, at most 4; " + waiting + " wait", TEN + """
                elect 0
                <waiting> times: submit #
                cut 0 = <first>; about 8 = <rest>; log 0 0 0 = 0; log 0 0 <last> = <last>; log 0 0 <first> = NONE
                """.replace("<waiting>", "" + waiting).replace("<first>", "" + first)
                .replace("<last>", "" + (first - 1)).replace("<rest>", "" + (waiting - first))
                + "cut 0 = " + (second == 0 ? "NONE" : second + "; log 0 1 0 = 4; about 8 = " + (waiting - 4 - second)));
        }
        tell("A BLOCK is a list of 1 to 4 transactions; at most 20 wait", TEN + """
            elect 0
            20 times: submit 0 = true
            5 times: cut 0 = 4
            cut 0 = NONE; about 3 = 5; about 8 = 0
            """);
    }

    private static final String FORTY = TEN + """
        elect 0
        39 times: submit 0; cut 0 = 1
        about 3 = 39; submit 1; cut 0 = 1; about 3 = 40
        """;

    private static void cutWithAFullLog() {
        tell("Refused (NONE): its log has 40 blocks", FORTY + """
            submit 2; cut 0 = NONE; about 3 = 40; about 8 = 1
            log 0 39 0 = 1; log 0 39 NONE = 1; log 0 40 NONE = NONE
            -- in a new term, too
            elect 0 = 2; cut 0 = NONE; about 8 = 1
            -- the log of another one has room of its own
            power 0 off; elect 1 = 3; cut 1 = 1; log 1 0 0 = 2
            """);
    }

    private static void cutTheSixtyFirst() {
        tell("Refused (NONE): 60 were cut", FORTY + """
            -- what is refused is not cut, and does not count
            cut 0 = NONE; cut 1 = NONE; submit 4; cut 0 = NONE; cut 0 = NONE; cut 1 = NONE
            power 0 off; elect 1 = 2; cut 1 = 1; cut 1 = NONE
            18 times: submit 0; cut 1 = 1
            submit 3; cut 1 = 1; about 4 = 20; log 1 19 0 = 3
            submit 2; cut 1 = NONE; about 4 = 20; about 8 = 1
            -- blocks that were lost have been cut, too
            power 0 on; copy 1 0 = 1; about 3 = 1; elect 1 = 3; cut 1 = NONE; about 8 = 1
            """);
    }

    private static void copyOfNoOrderer() {
        tell("Refused (NONE): there is no such orderer a or b", TEN + """
            -- NONE is no orderer, also while there is no leader
            copy -1 0 = NONE; copy 3 0 = NONE; copy 0 -1 = NONE; copy 0 3 = NONE
            elect 0; submit 0; cut 0
            copy -1 1 = NONE; copy 3 1 = NONE; copy MIN 1 = NONE; copy MAX 1 = NONE
            copy 0 -1 = NONE; copy 0 3 = NONE; copy 0 MIN = NONE; copy 0 MAX = NONE
            copy 0 1 = 1; copy 0 2 = 1
            """);
    }

    private static void copyToItself() {
        tell("Refused (NONE): they are the same", TEN + """
            elect 0; submit 0; cut 0; copy 0 0 = NONE; about 7 = 0; copy 1 1 = NONE; copy 2 2 = NONE
            copy 0 1 = 1; copy 0 0 = NONE
            """);
    }

    private static void copyByNoLeader() {
        tell("Refused (NONE): a is not leader", TEN + """
            copy 0 1 = NONE
            elect 0; submit 0; cut 0; copy 1 2 = NONE; copy 1 0 = NONE; copy 2 0 = NONE; copy 2 1 = NONE
            elect 0; power 0 off; copy 0 1 = NONE; power 0 on; copy 0 1 = NONE; about 4 = 0
            elect 0; copy 0 1 = 1
            """);
    }

    private static void copyToOneThatIsDown() {
        tell("Refused (NONE): b is down", TEN + """
            elect 0; submit 0; cut 0; power 1 off; elect 0 = 2
            copy 0 1 = NONE; about 4 = 0; about 1 = 1; about 7 = 0
            power 1 on; copy 0 1 = 1; about 4 = 1; about 1 = 2
            """);
    }

    private static void copyOfNothing() {
        tell("if a's log has more than L blocks, .. the answer is 1, otherwise 0", TEN + """
            -- L is 0, and both logs are empty
            elect 0; copy 0 1 = 0; about 4 = 0; about 7 = 0
            submit 0; cut 0; submit 1; cut 0
            -- L is 0, 1, and 2, the length of both
            copy 0 1 = 1; about 4 = 1; log 1 0 0 = 0
            copy 0 1 = 1; about 4 = 2; log 1 1 0 = 1
            copy 0 1 = 0; about 4 = 2; about 3 = 2; about 7 = 2
            """);
    }

    private static void copyWhenBIsAhead() {
        tell("If both have more than L blocks, b's log loses all but the first L: not when b alone has more", STAIRS + """
            -- 1 has the first of the two blocks of 0
            elect 1 = 2; copy 1 0 = 0; about 3 = 2; log 0 1 0 = 1; about 7 = 1
            -- as soon as 1 has another second one, 0 loses its own
            submit 5; cut 1 = 1; copy 1 0 = 1; about 3 = 2; log 0 1 0 = 5; log 0 1 NONE = 2
            """);
        tell("the same, when a has none", TEN + """
            elect 0 = 1; submit 0; cut 0; power 0 off; elect 1 = 2; power 0 on
            copy 1 0 = 0; about 3 = 1; about 4 = 0; log 0 0 0 = 0
            """);
    }

    private static void copyWhenBothGoOn() {
        String sentence = "If both have more than L blocks, b's log loses all but the first L";
        tell(sentence + ": L is 0", SHORT_BUT_LATER + """
            copy 1 0 = 1; about 3 = 1; log 0 0 0 = 2; log 0 0 NONE = 2; log 0 1 NONE = NONE
            copy 1 0 = 0; about 3 = 1
            """);
        tell(sentence + ": L is 1, and one block after the other is added", STAIRS + """
            submit 2; cut 0; elect 1 = 2
            submit 3; cut 1; submit 4; cut 1; submit 5; cut 1
            about 3 = 3
            copy 1 0 = 1; about 3 = 2; log 0 0 0 = 0; log 0 1 0 = 3; log 0 2 0 = NONE
            copy 1 0 = 1; about 3 = 3; log 0 2 0 = 4
            copy 1 0 = 1; about 3 = 4; log 0 3 0 = 5
            copy 1 0 = 0; about 3 = 4
            """);
        tell(sentence + ": blocks of the same transactions are not the same ones", TEN + """
            elect 0 = 1; submit 0; cut 0; power 0 off; elect 1 = 2; submit 0; cut 1; power 0 on
            log 0 0 NONE = 1; copy 1 0 = 1; log 0 0 NONE = 2; about 3 = 1
            """);
    }

    private static void copyKeepsTheTermOfABlock() {
        tell("its block number L (from 0), with the term with which it was cut, is added to b's log", TEN + """
            elect 0 = 1; submit 0; cut 0; elect 0 = 2; submit 1; cut 0; elect 0 = 3
            copy 0 1 = 1; log 1 0 NONE = 1; copy 0 1 = 1; log 1 1 NONE = 2
            about 1 = 3
            """);
    }

    private static void copySetsTheTermInAnyCase() {
        tell("In any case b's term becomes that of a", TEN + """
            power 2 off; elect 0 = 1; elect 0 = 2; power 2 on; about 2 = 0
            copy 0 2 = 0; about 2 = 2; about 1 = 2
            power 2 off; elect 0 = 3; power 2 on; submit 0; cut 0; about 2 = 2
            copy 0 2 = 1; about 2 = 3
            """);
    }

    private static void copyOfAFullLog() {
        tell("a LOG of at most 40 blocks: all of them are copied", FORTY + """
            40 times: copy 0 2 = 1; about 7 = #+1
            copy 0 2 = 0; about 5 = 40; log 2 39 0 = 1; log 2 40 0 = NONE; chain 39 0 = 1; chain 40 0 = NONE
            """);
    }

    private static void theChainGrowsByTheOwnTerm() {
        String sentence = "block N - 1 of a's log was cut in a's term";
        tell(sentence, TEN + """
            elect 0 = 1; submit 0; cut 0; submit 1; cut 0; elect 0 = 2
            -- both were cut in an earlier term
            copy 0 1 = 1; copy 0 1 = 1; copy 0 1 = 0; copy 0 2 = 1; copy 0 2 = 1; about 7 = 0
            submit 2; cut 0; about 7 = 0
            -- the third brings all three
            copy 0 1 = 1; about 7 = 3; chain 0 0 = 0; chain 1 0 = 1; chain 2 0 = 2
            """);
        tell(sentence + ": the greatest such number, not the first", TEN + """
            elect 0 = 1; submit 0; cut 0; submit 1; cut 0; submit 2; cut 0
            copy 0 1 = 1; about 7 = 1; copy 0 2 = 1; about 7 = 1
            copy 0 1 = 1; about 7 = 2; copy 0 2 = 1; about 7 = 2; copy 0 2 = 1; about 7 = 3
            """);
    }

    private static void theChainNeedsAnother() {
        tell("is the block N - 1 of another orderer's log (up or down) too (0 if there is none)", TEN + """
            elect 0 = 1; copy 0 1 = 0; about 7 = 0
            submit 0; cut 0; about 7 = 0
            copy 0 1 = 1; about 7 = 1
            power 1 off; submit 1; cut 0; about 7 = 1
            copy 0 2 = 1; about 7 = 1; copy 0 2 = 1; about 7 = 2
            """);
    }

    private static void theChainGrowsOnly() {
        tell("if N is more than the length of the chain, the chain becomes the first N blocks of a's log", TEN + """
            elect 0 = 1; submit 0; cut 0; submit 1; cut 0; copy 0 1; copy 0 1; about 7 = 2
            -- N is 1, then 2, and the chain has 2
            copy 0 2 = 1; about 7 = 2; copy 0 2 = 1; about 7 = 2
            -- N is 0 in a new term
            elect 2 = 2; copy 2 0 = 0; about 7 = 2; chain 0 0 = 0; chain 1 0 = 1
            submit 2; cut 2; about 7 = 2; copy 2 0 = 1; about 7 = 3; chain 2 0 = 2
            """);
    }

    /** Blocks 0 (of three) and 1 (of one) of the chain, and one more in the log of 0 alone. */
    private static final String TWO_BLOCKS = TEN + """
        elect 0; submit 5; submit 6; submit 7; cut 0; copy 0 1; submit 8; cut 0; copy 0 1; elect 0 = 2; submit 9; cut 0
        """;

    private static void chainOfNoBlock() {
        tell("NONE when there is no such block", TWO_BLOCKS + """
            chain -1 0 = NONE; chain 2 0 = NONE; chain 40 0 = NONE; chain MIN 0 = NONE; chain MAX 0 = NONE
            chain -1 NONE = NONE; chain 2 NONE = NONE; chain MAX NONE = NONE
            chain 0 0 = 5; chain 1 0 = 8
            """);
    }

    private static void chainOfNoPlace() {
        tell("for place NONE how many there are in it. NONE when there is no such place", TWO_BLOCKS + """
            chain 0 NONE = 3; chain 1 NONE = 1
            chain 0 -2 = NONE; chain 0 3 = NONE; chain 0 4 = NONE; chain 0 MIN = NONE; chain 0 MAX = NONE; chain 1 1 = NONE
            chain 0 0 = 5; chain 0 1 = 6; chain 0 2 = 7; chain 1 0 = 8
            """);
        tell("a block of 4, the transaction 0", TEN + """
            elect 0
            4 times: submit #
            cut 0 = 4; copy 0 1; chain 0 NONE = 4; chain 0 0 = 0; chain 0 3 = 3; chain 0 4 = NONE
            """);
    }

    private static void logOfNoOrderer() {
        tell("NONE when there is no such orderer", TWO_BLOCKS + """
            log -1 0 0 = NONE; log 3 0 0 = NONE; log MIN 0 0 = NONE; log MAX 0 0 = NONE
            log -1 0 NONE = NONE; log 3 0 NONE = NONE
            copy 0 2; log 0 0 0 = 5; log 2 0 0 = 5
            power 2 off; log 2 0 0 = 5; log 2 0 NONE = 1
            """);
    }

    private static void logOfNoBlock() {
        tell("NONE when there is no such block", TWO_BLOCKS + """
            log 0 -1 0 = NONE; log 0 3 0 = NONE; log 0 40 0 = NONE; log 0 MIN 0 = NONE; log 0 MAX 0 = NONE
            log 0 -1 NONE = NONE; log 0 3 NONE = NONE; log 1 2 NONE = NONE; log 2 0 NONE = NONE; log 2 0 0 = NONE
            log 0 0 0 = 5; log 0 2 0 = 9; log 1 1 0 = 8
            """);
    }

    private static void logOfNoPlace() {
        tell("for place NONE its term. NONE when there is no such place", TWO_BLOCKS + """
            log 0 0 NONE = 1; log 0 2 NONE = 2
            log 0 0 -2 = NONE; log 0 0 3 = NONE; log 0 0 4 = NONE; log 0 0 MIN = NONE; log 0 0 MAX = NONE; log 0 2 1 = NONE
            log 0 0 0 = 5; log 0 0 1 = 6; log 0 0 2 = 7; log 0 2 0 = 9
            """);
    }
}
