/** The edges of promises 10 to 12, 15 and 16: power, deliver, tear, state, flag; and of applying and saving. */
final class PeerEdgesTest {
    /** Program 0 writes its argument at the key of that number; 1 reads that key; 2 sums up 4 .. 6; 3 deletes it. */
    private static final String FOUR = """
        program 0: ARG, ARG, PUT
        program 1: PUSH 12, ARG, GET, PUT
        program 2: PUSH 12, PUSH 4, PUSH 6, SUM, PUT
        program 3: ARG, DELETE
        policy 0 0 0; policy 1 0 0; policy 2 0 0; policy 3 0 0
        elect 0
        """;
    private static final Check check = new Check();

    public static void main(String[] args) {
        powerOfNoNode();
        powerThatIsSoAlready();
        powerOfTheLeader();
        powerKeepsTermAndLog();
        powerOfAPeerLosesItsState();
        powerBringsBackWhatWasSaved();
        powerAppliesWhatWasStored();
        deliverToNoPeer();
        deliverToOneThatIsDown();
        deliverNoFurtherBlock();
        deliverCountsTheValid();
        tearOfNoPeer();
        tearOfOneThatIsDown();
        tearNoFurtherBlock();
        tearGoesDownBeforeItApplies();
        duplicateInTheBlock();
        duplicateInTheChain();
        duplicateOfNoValidOne();
        noDuplicateOfALostBlock();
        policyFlag();
        versionFlag();
        rangeFlag();
        secondRangeFlag();
        flagsInTheirOrder();
        versionsOfBlocksAndPlaces();
        writtenNothing();
        whatIsNotValidWritesNothing();
        theStateAfterThoseBefore();
        savedAtMultiplesOfFour();
        theLongestChain();
        stateOfNoPeer();
        stateOfNoKey();
        stateOfOneThatIsDown();
        stateOfNoWhat();
        stateOfMinusOne();
        flagOfNoPeer();
        flagOfOneThatIsDown();
        flagNotBelowTheHeight();
        flagOfNoPlace();
        check.end();
    }

    private static void tell(String sentence, String rows) {
        Story.tell(check, sentence, rows);
    }

    /** A chain of so many blocks, each with one transaction of its own that writes its number, from 0, at key 1. */
    private static String chain(int blocks) {
        return """
            program 0: PUSH 1, ARG, PUT
            policy 0 0 0
            elect 0
            <blocks> times: propose 0 #; endorse # 0; submit #; cut 0 = 1; copy 0 1 = 1
            """.replace("<blocks>", "" + blocks);
    }

    private static void powerOfNoNode() {
        tell("Refused (NONE): there is no such node", """
            power -1 off = NONE; power 7 off = NONE; power MIN off = NONE; power MAX off = NONE
            power -1 on = NONE; power 7 on = NONE; power MIN on = NONE; power MAX on = NONE
            about 18 = 127
            power 0 off = 0; about 18 = 126; power 6 off = 0; about 18 = 62
            power -1 on = NONE; power 7 on = NONE; about 18 = 62
            power 0 on = 0; power 6 on = 0; about 18 = 127
            """);
        tell("Orderer node (0 .. 2), or peer node - 3 (3 .. 6)", """
            power 2 off = 0; about 18 = 123; elect 2 = NONE; state 0 0 0 = 0
            power 3 off = 0; about 18 = 115; state 0 0 0 = NONE; state 1 0 0 = 0; state 3 0 0 = 0
            power 6 off = 0; about 18 = 51; state 3 0 0 = NONE; state 2 0 0 = 0
            """);
    }

    private static void powerThatIsSoAlready() {
        tell("Refused (NONE): it is so already", """
            7 times: power # on = NONE
            7 times: power # off = 0; power # off = NONE
            about 18 = 0
            7 times: power # on = 0; power # on = NONE
            about 18 = 127
            """);
        tell("it is so already: a leader, and its log", chain(2) + """
            power 0 on = NONE; about 6 = 0; power 1 off = 0; power 1 off = NONE; about 4 = 2; about 1 = 1; about 6 = 0
            power 0 off = 0; power 0 off = NONE; about 3 = 2; about 0 = 1; about 6 = NONE
            """);
        tell("it is so already: a peer, what it has stored and saved, and its state", chain(6) + """
            5 times: deliver 0 = 1
            power 3 on = NONE; state 0 1 1 = 4; state 0 1 0 = 17; flag 0 4 0 = 0
            power 3 off = 0; power 3 off = NONE; about 10 = 5; about 14 = 4
            power 3 on = 1; power 3 on = NONE; state 0 1 1 = 4; deliver 0 = 1
            """);
        tell("it is so already, after tear()", chain(1) + """
            tear 2 = true; power 5 off = NONE; power 5 on = 1; power 5 on = NONE
            """);
    }

    private static void powerOfTheLeader() {
        tell("An orderer that goes down is leader no more", """
            elect 1 = 1; power 0 off = 0; about 6 = 1; power 2 off = 0; about 6 = 1
            power 0 on = 0; about 6 = 1
            power 1 off = 0; about 6 = NONE; power 1 on = 0; about 6 = NONE
            -- a peer of the same number, or of that node's, is no orderer
            elect 1 = 2; power 4 off = 0; about 6 = 1; power 4 on = 0; about 6 = 1
            """);
    }

    private static void powerKeepsTermAndLog() {
        tell("Term and log stay when an orderer goes down", chain(2) + """
            power 0 off = 0; about 0 = 1; about 3 = 2; log 0 1 0 = 1; log 0 1 NONE = 1
            power 0 on = 0; about 0 = 1; about 3 = 2; log 0 1 0 = 1; about 7 = 2
            """);
    }

    private static void powerOfAPeerLosesItsState() {
        tell("A peer that goes down loses its state, not what it has stored and saved", chain(5) + """
            5 times: deliver 1 = 1
            power 4 off = 0; about 11 = 5; about 15 = 4; state 1 1 0 = NONE; flag 1 0 0 = NONE; deliver 1 = NONE
            power 4 on = 1; about 11 = 5; about 15 = 4; state 1 1 0 = 17; state 1 1 1 = 4
            5 times: flag 1 # 0 = 0
            """);
        tell("all 0 and empty at first: a new peer goes down and up", """
            power 3 off = 0; power 3 on = 0; about 10 = 0; about 14 = 0
            """);
    }

    /** Each transaction adds 1 to key 3: over any other state than that before it, it would not be valid again. */
    private static void powerBringsBackWhatWasSaved() {
        StringBuilder rows = new StringBuilder("""
            program 0: PUSH 3, PUSH 3, GET, PUSH 1, ADD, PUT
            program 1: PUSH 9, ARG, PUT
            policy 0 0 0; policy 1 0 0
            elect 0
            propose 1 77; endorse 0 0; submit 0; cut 0; copy 0 1; deliver 0 = 1; deliver 1 = 1
            """);
        for (int b = 1; b < 10; b++) {
            rows.append("propose 0 0; endorse <b> 0; submit <b>; cut 0; copy 0 1; deliver 0 = 1; deliver 1 = 1\n"
                .replace("<b>", "" + b));
            rows.append("power 4 off = 0; power 4 on = " + (b + 1) % 4 + "; flag 1 " + b + " 0 = 0\n");
            rows.append("state 1 3 0 = " + (4 * b + 1) + "; state 1 3 1 = " + b + "; state 1 9 0 = 1; state 1 9 1 = 77\n");
        }
        tell("when it goes up, its state and height become the saved ones", rows.toString());
    }

    private static void powerAppliesWhatWasStored() {
        int[] due = {0, 1, 2, 3, 0, 1, 2, 3, 0, 1};
        StringBuilder rows = new StringBuilder(chain(9));
        for (int height = 0; height <= 9; height++) {
            rows.append("power 5 off = 0; power 5 on = " + due[height] + "\n");
            rows.append("state 2 1 0 = " + (height == 0 ? 0 : 4 * height - 3) + "\n");
            rows.append("state 2 1 1 = " + (height == 0 ? 0 : height - 1) + "\n");
            rows.append(height < 9 ? "deliver 2 = 1\n" : "deliver 2 = NONE\n");
        }
        String sentence = "it applies the blocks that it has stored from that height on; the answer is how many these are";
        tell(sentence, rows.toString());
        tell("the most that can be stored and not saved: 4, the last one torn", chain(8) + """
            3 times: deliver 0 = 1
            tear 0 = true; about 10 = 4; about 14 = 0
            power 3 on = 4; about 14 = 4; state 0 1 1 = 3; flag 0 3 0 = 0
            power 3 off = 0; power 3 on = 0; state 0 1 1 = 3
            3 times: deliver 0 = 1
            tear 0 = true; about 10 = 8; about 14 = 4; power 3 on = 4; about 14 = 8; state 0 1 1 = 7
            """);
    }

    private static void deliverToNoPeer() {
        tell("Refused (NONE): there is no such peer", chain(1) + """
            deliver -1 = NONE; deliver 4 = NONE; deliver MIN = NONE; deliver MAX = NONE
            4 times: about #+10 = 0; deliver # = 1; about #+10 = 1
            """);
    }

    private static void deliverToOneThatIsDown() {
        tell("Refused (NONE): it is down", chain(1) + """
            power 3 off; power 6 off; deliver 0 = NONE; deliver 3 = NONE; about 10 = 0; about 13 = 0
            deliver 1 = 1; deliver 2 = 1
            power 3 on = 0; deliver 0 = 1
            """);
    }

    private static void deliverNoFurtherBlock() {
        tell("Refused (NONE): the chain has no further block", """
            deliver 0 = NONE; about 10 = 0
            """ + chain(2) + """
            deliver 0 = 1; deliver 0 = 1; deliver 0 = NONE; about 10 = 2
            -- what is only cut is not in the chain
            submit 0; cut 0; deliver 0 = NONE; copy 0 1 = 1; deliver 0 = 0; deliver 0 = NONE
            -- what another one has stored is no matter
            deliver 1 = 1
            """);
    }

    private static void deliverCountsTheValid() {
        for (int valid = 0; valid <= 4; valid++) {
            // peer 1 endorses the others, and does not meet the policy
            tell("Answers how many of its transactions were flagged VALID: " + valid, """
                program 0: PUSH 1, ARG, PUT
                policy 0 0 0
                elect 0
                4 times: propose 0 #
                <valid> times: endorse # 0; submit #
                <others> times: endorse #+<valid> 1; submit #+<valid>
                cut 0 = 4; copy 0 1; deliver 3 = <valid>
                """.replace("<valid>", "" + valid).replace("<others>", "" + (4 - valid)));
        }
    }

    private static void tearOfNoPeer() {
        tell("Refused as deliver(): there is no such peer", chain(1) + """
            tear -1 = false; tear 4 = false; tear MIN = false; tear MAX = false
            4 times: tear # = true; about #+10 = 1
            about 18 = 7
            """);
    }

    private static void tearOfOneThatIsDown() {
        tell("Refused as deliver(): it is down", chain(2) + """
            power 3 off; tear 0 = false; about 10 = 0
            power 3 on; tear 0 = true; about 10 = 1; tear 0 = false; about 10 = 1
            power 3 on = 1; tear 0 = true; about 10 = 2
            """);
    }

    private static void tearNoFurtherBlock() {
        tell("Refused as deliver(): the chain has no further block", """
            tear 0 = false; about 18 = 127
            """ + chain(1) + """
            deliver 0 = 1; tear 0 = false; about 18 = 127; about 10 = 1
            tear 1 = true; power 4 on = 1; tear 1 = false; about 18 = 127; about 11 = 1
            """);
    }

    private static void tearGoesDownBeforeItApplies() {
        tell("stores the next block of the chain, and goes down before it applies it", chain(5) + """
            3 times: deliver 2 = 1
            -- the fourth is not applied, so nothing is saved
            tear 2 = true; about 12 = 4; about 16 = 0; about 18 = 95
            state 2 1 0 = NONE; flag 2 0 0 = NONE; flag 2 3 0 = NONE; deliver 2 = NONE
            power 5 on = 4; about 16 = 4; state 2 1 0 = 13; flag 2 3 0 = 0; deliver 2 = 1
            """);
    }

    private static void duplicateInTheBlock() {
        tell("4 DUPLICATE when the same transaction stands earlier in this block", FOUR + """
            propose 0 5; propose 0 7; endorse 0 0; endorse 1 0
            submit 0; submit 0; submit 1; submit 0; cut 0 = 4; copy 0 1
            deliver 0 = 2; flag 0 0 0 = 0; flag 0 0 1 = 4; flag 0 0 2 = 0; flag 0 0 3 = 4
            state 0 5 0 = 1; state 0 7 0 = 3
            """);
    }

    private static void duplicateInTheChain() {
        tell("4 DUPLICATE when the same transaction stands earlier in the chain", FOUR + """
            propose 0 5; propose 0 7; endorse 0 0; endorse 1 0
            submit 1; submit 1; submit 1; submit 0; cut 0 = 4; copy 0 1
            submit 0; cut 0; copy 0 1; submit 1; submit 0; cut 0; copy 0 1
            deliver 0 = 2; flag 0 0 0 = 0; flag 0 0 1 = 4; flag 0 0 3 = 0
            deliver 0 = 0; flag 0 1 0 = 4
            deliver 0 = 0; flag 0 2 0 = 4; flag 0 2 1 = 4
            state 0 5 0 = 4; state 0 7 0 = 1
            """);
        tell("what stands later is not earlier", FOUR + """
            propose 0 5; endorse 0 0; submit 0; cut 0; copy 0 1; submit 0; cut 0; copy 0 1
            -- both blocks are in the chain when the first one is applied
            deliver 0 = 1; flag 0 0 0 = 0; deliver 0 = 0; flag 0 1 0 = 4
            -- and again when it is applied anew
            power 3 off; power 3 on = 2; flag 0 0 0 = 0; flag 0 1 0 = 4
            """);
    }

    private static void duplicateOfNoValidOne() {
        tell("4 DUPLICATE, whatever the earlier one was flagged", FOUR + """
            propose 0 5; endorse 0 1; propose 1 5; endorse 1 0; propose 0 5; endorse 2 0
            submit 0; submit 2; submit 1; cut 0; copy 0 1; submit 0; submit 1; cut 0; copy 0 1
            deliver 0 = 1; flag 0 0 0 = 1; flag 0 0 1 = 0; flag 0 0 2 = 2
            deliver 0 = 0; flag 0 1 0 = 4; flag 0 1 1 = 4
            """);
    }

    private static void noDuplicateOfALostBlock() {
        tell("4 DUPLICATE when it stands earlier in the chain, not in a block that was cut and lost", FOUR + """
            propose 0 5; endorse 0 0; submit 0; cut 0 = 1; power 0 off
            elect 1 = 2; submit 0; cut 1 = 1; copy 1 2 = 1
            deliver 0 = 1; flag 0 0 0 = 0
            -- its version tells the number in the chain
            state 0 5 0 = 1
            """);
    }

    private static void policyFlag() {
        tell("1 POLICY when the policy of its program is not met by its endorsers", """
            program 0: ARG, ARG, PUT
            policy 0 0 0; policy 0 1 0; policy 0 2 0; policy 0 2 3
            elect 0
            4 times: propose 0 #
            endorse 0 0; endorse 1 0; endorse 1 3; endorse 2 0; endorse 2 2; endorse 3 0; endorse 3 1; endorse 3 2
            4 times: submit #
            cut 0 = 4; copy 0 1; deliver 0 = 2
            flag 0 0 0 = 1; flag 0 0 1 = 1; flag 0 0 2 = 0; flag 0 0 3 = 0
            """);
    }

    private static void versionFlag() {
        String sentence = "2 VERSION when the version of some key read by GET is not that of its result";
        for (int key : new int[] {0, 7, 15}) {
            tell(sentence + ": something came where nothing was, at " + key, FOUR + """
                propose 1 <key>; propose 1 <key>; propose 0 <key>
                3 times: endorse # 0
                submit 0; submit 2; submit 1; cut 0; copy 0 1
                deliver 0 = 2; flag 0 0 0 = 0; flag 0 0 1 = 0; flag 0 0 2 = 2
                """.replace("<key>", "" + key));
        }
        String there = FOUR + "propose 0 7; endorse 0 0; submit 0; cut 0; copy 0 1; deliver 0 = 1\n";
        tell(sentence + ": the same value came with another version", there + """
            propose 1 7; propose 1 7; propose 0 7
            3 times: endorse #+1 0 = 0
            submit 1; submit 3; submit 2; cut 0; copy 0 1
            deliver 0 = 2; flag 0 1 0 = 0; flag 0 1 1 = 0; flag 0 1 2 = 2
            """);
        tell(sentence + ": nothing is where something was", there + """
            propose 1 7; propose 3 7; endorse 1 0; endorse 2 0
            submit 2; submit 1; cut 0; copy 0 1
            deliver 0 = 1; flag 0 1 0 = 0; flag 0 1 1 = 2
            """);
        tell(sentence + ": another key was written", FOUR + """
            propose 1 7; propose 0 6; propose 0 8
            3 times: endorse # 0
            submit 1; submit 2; submit 0; cut 0; copy 0 1; deliver 0 = 3
            """);
        tell(sentence + ": it came and went", FOUR + """
            propose 1 7; propose 0 7; propose 3 7
            3 times: endorse # 0
            submit 1; submit 2; submit 0; cut 0; copy 0 1; deliver 0 = 3
            """);
    }

    /** The range is that from 4 to 6. */
    private static void rangeFlag() {
        String sentence = "3 RANGE when the version of some key of a range is not that of its result";
        for (int key = 3; key <= 7; key++) {
            boolean isIn = key >= 4 && key <= 6;
            tell(sentence + ": something came at " + key, FOUR + """
                propose 0 <key>; propose 2 0; endorse 0 0; endorse 1 0; submit 0; submit 1; cut 0; copy 0 1
                deliver 0 = <valid>; flag 0 0 0 = 0; flag 0 0 1 = <flag>
                """.replace("<key>", "" + key).replace("<valid>", isIn ? "1" : "2").replace("<flag>", isIn ? "3" : "0"));
            tell(sentence + ": nothing is any more at " + key, FOUR + """
                propose 0 <key>; endorse 0 0; submit 0; cut 0; copy 0 1; deliver 0 = 1
                propose 3 <key>; propose 2 0; endorse 1 0; endorse 2 0; submit 1; submit 2; cut 0; copy 0 1
                deliver 0 = <valid>; flag 0 1 0 = 0; flag 0 1 1 = <flag>
                """.replace("<key>", "" + key).replace("<valid>", isIn ? "1" : "2").replace("<flag>", isIn ? "3" : "0"));
        }
    }

    /** The first range is empty, the second one goes from 1 to 2 or from 0 to 15. */
    private static void secondRangeFlag() {
        for (int key : new int[] {0, 1, 2, 3, 15}) {
            boolean isIn = key == 1 || key == 2;
            tell("3 RANGE: some key of a range, also of the second one, written " + key, """
                program 0: ARG, ARG, PUT
                program 1: PUSH 9, PUSH 8, SUM, PUSH 1, ADD, PUSH 2, SUM
                program 2: PUSH 9, PUSH 8, SUM, PUSH 15, SUM
                program 3: PUSH 15, PUSH 0, SUM, DELETE, PUSH 1, PUSH 0, SUM
                policy 0 0 0; policy 1 0 0; policy 2 0 0; policy 3 0 0
                propose 0 <key>; propose 1 0; propose 2 0; propose 3 0
                4 times: endorse # 0; submit #
                elect 0; cut 0 = 4; copy 0 1; deliver 0
                flag 0 0 0 = 0; flag 0 0 1 = <flag>; flag 0 0 2 = 3; flag 0 0 3 = 0
                """.replace("<key>", "" + key).replace("<flag>", isIn ? "3" : "0"));
        }
    }

    private static void flagsInTheirOrder() {
        tell("FLAGGED: 4, else 1, else 2, else 3, else 0", """
            program 0: PUSH 5, ARG, PUT
            program 1: PUSH 5, GET, PUSH 5, SUM
            program 2: PUSH 0, PUSH 15, SUM
            policy 0 0 0; policy 1 0 0; policy 2 0 0
            elect 0
            propose 0 0; propose 1 0; propose 1 0; propose 2 0
            endorse 0 0; endorse 1 0; endorse 2 1; endorse 3 0
            -- 1: read and range differ; 2: the policy is not met either; 3: the range alone
            submit 0; submit 1; submit 2; submit 3; cut 0 = 4; copy 0 1
            deliver 0 = 1; flag 0 0 0 = 0; flag 0 0 1 = 2; flag 0 0 2 = 1; flag 0 0 3 = 3
            -- a duplicate before all else
            submit 1; submit 2; submit 3; cut 0 = 3; copy 0 1
            deliver 0 = 0; flag 0 1 0 = 4; flag 0 1 1 = 4; flag 0 1 2 = 4
            """);
    }

    private static void versionsOfBlocksAndPlaces() {
        tell("the version 1 + 4 * B's number + the place in the block (both from 0)", """
            program 0: ARG, ARG, PUT
            policy 0 0 0
            elect 0
            12 times: propose 0 #; endorse # 0; submit #
            3 times: cut 0 = 4; copy 0 1
            3 times: deliver 0 = 4
            12 times: state 0 # 0 = #+1; state 0 # 1 = #
            """);
        tell("the place counts those that are not valid, too", FOUR + """
            propose 0 5; propose 0 6; propose 0 7
            endorse 0 0; endorse 1 1; endorse 2 0
            submit 0; submit 0; submit 1; submit 2; cut 0 = 4; copy 0 1
            deliver 0 = 2; state 0 5 0 = 1; state 0 6 0 = 0; state 0 7 0 = 4
            """);
    }

    private static void writtenNothing() {
        tell("each key that it wrote becomes what was written, or nothing", FOUR + """
            propose 0 7; propose 3 7; propose 3 8
            3 times: endorse # 0
            submit 0; cut 0; copy 0 1; deliver 0 = 1; state 0 7 0 = 1; state 0 7 1 = 7
            submit 1; submit 2; cut 0; copy 0 1; deliver 0 = 2
            state 0 7 0 = 0; state 0 7 1 = 0; state 0 8 0 = 0; state 0 8 1 = 0
            """);
    }

    private static void whatIsNotValidWritesNothing() {
        tell("0 VALID: then each key that it wrote becomes what was written", """
            program 0: PUSH 5, ARG, PUT
            program 1: PUSH 6, PUSH 5, GET, PUT
            program 2: PUSH 7, PUSH 5, PUSH 5, SUM, PUT
            policy 0 0 0; policy 1 0 0; policy 2 0 0
            elect 0
            propose 0 1; propose 1 0; propose 2 0; propose 0 2
            endorse 0 0; endorse 1 0; endorse 2 0; endorse 3 1
            4 times: submit #
            submit 0; cut 0 = 4; copy 0 1; cut 0 = 1; copy 0 1
            deliver 0 = 1; deliver 0 = 0
            flag 0 0 0 = 0; flag 0 0 1 = 2; flag 0 0 2 = 3; flag 0 0 3 = 1; flag 0 1 0 = 4
            state 0 5 0 = 1; state 0 5 1 = 1; state 0 6 0 = 0; state 0 7 0 = 0
            """);
    }

    private static void theStateAfterThoseBefore() {
        tell("The state is that after the transactions before it", FOUR + """
            propose 1 7; propose 1 7; propose 0 7; propose 1 7
            4 times: endorse # 0
            -- in the same block, and in the one before
            submit 0; submit 2; submit 1; cut 0 = 3; copy 0 1; submit 3; cut 0; copy 0 1
            deliver 0 = 2; flag 0 0 0 = 0; flag 0 0 1 = 0; flag 0 0 2 = 2
            deliver 0 = 0; flag 0 1 0 = 2
            """);
    }

    private static void savedAtMultiplesOfFour() {
        StringBuilder rows = new StringBuilder(chain(13));
        for (int height = 1; height <= 13; height++) {
            rows.append("deliver 3 = 1; about 17 = " + height / 4 * 4 + "; about 13 = " + height + "\n");
        }
        tell("the height grows by 1; and when it is a multiple of 4, the saved state and height become these", rows
            + "about 14 = 0; about 15 = 0; about 16 = 0");
    }

    private static void theLongestChain() {
        tell("a chain of 40 blocks: the last block, place and version", """
            program 0: PUSH 1, ARG, PUT
            policy 0 0 0
            propose 0 7; propose 0 8; endorse 0 0; endorse 1 0; elect 0
            39 times: submit 0; cut 0; copy 0 1
            submit 0; submit 0; submit 0; submit 1; cut 0 = 4; copy 0 1; about 7 = 40
            deliver 3 = 1
            38 times: deliver 3 = 0
            about 17 = 36; about 13 = 39; deliver 3 = 1; about 17 = 40; about 13 = 40; deliver 3 = NONE; tear 3 = false
            flag 3 0 0 = 0; flag 3 38 0 = 4; flag 3 39 0 = 4; flag 3 39 2 = 4; flag 3 39 3 = 0; flag 3 40 0 = NONE
            state 3 1 0 = 160; state 3 1 1 = 8
            power 6 off; power 6 on = 0; state 3 1 0 = 160; flag 3 39 3 = 0
            """);
    }

    private static void stateOfNoPeer() {
        tell("NONE when there is no such peer", chain(1) + """
            4 times: deliver # = 1
            state -1 1 0 = NONE; state 4 1 0 = NONE; state MIN 1 0 = NONE; state MAX 1 0 = NONE
            state 0 1 0 = 1; state 3 1 0 = 1
            """);
    }

    private static void stateOfNoKey() {
        tell("NONE when there is no such key", """
            state 0 -1 0 = NONE; state 0 16 0 = NONE; state 0 MIN 0 = NONE; state 0 MAX 0 = NONE
            state 0 -1 1 = NONE; state 0 16 1 = NONE
            state 0 0 0 = 0; state 0 15 0 = 0; state 0 0 1 = 0; state 0 15 1 = 0
            """);
    }

    private static void stateOfOneThatIsDown() {
        tell("NONE when the peer is down", chain(2) + """
            deliver 0 = 1; deliver 1 = 1; power 3 off
            16 times: state 0 # 0 = NONE; state 0 # 1 = NONE
            state 1 1 0 = 1
            power 3 on = 1; state 0 1 0 = 1; tear 0 = true; state 0 1 0 = NONE
            """);
    }

    private static void stateOfNoWhat() {
        tell("NONE when what is not 0 or 1", chain(1) + """
            deliver 0 = 1
            state 0 1 -1 = NONE; state 0 1 2 = NONE; state 0 1 MIN = NONE; state 0 1 MAX = NONE
            state 0 1 0 = 1; state 0 1 1 = 0
            """);
    }

    private static void stateOfMinusOne() {
        tell("(A value may be -1, too.)", """
            program 0: PUSH 1, PUSH -1, PUT
            policy 0 0 0
            propose 0 0; endorse 0 0; submit 0; elect 0; cut 0; copy 0 1; deliver 0 = 1
            state 0 1 1 = -1; state 0 1 0 = 1; state 0 2 1 = 0; state 0 2 0 = 0
            """);
    }

    private static void flagOfNoPeer() {
        tell("NONE when there is no such peer", chain(1) + """
            4 times: flag # 0 0 = NONE; deliver # = 1; flag # 0 0 = 0
            flag -1 0 0 = NONE; flag 4 0 0 = NONE; flag MIN 0 0 = NONE; flag MAX 0 0 = NONE
            """);
    }

    private static void flagOfOneThatIsDown() {
        tell("NONE when it is down", chain(2) + """
            deliver 0 = 1; power 3 off; flag 0 0 0 = NONE; power 3 on = 1; flag 0 0 0 = 0
            tear 0 = true; flag 0 0 0 = NONE; flag 0 1 0 = NONE
            """);
    }

    private static void flagNotBelowTheHeight() {
        tell("NONE when its height is not above b, or there is no such block", chain(3) + """
            flag 0 0 0 = NONE; deliver 0 = 1; flag 0 0 0 = 0; flag 0 1 0 = NONE
            deliver 0 = 1; flag 0 1 0 = 0; flag 0 2 0 = NONE; flag 0 3 0 = NONE
            deliver 0 = 1; flag 0 2 0 = 0; flag 0 3 0 = NONE
            flag 0 -1 0 = NONE; flag 0 40 0 = NONE; flag 0 MIN 0 = NONE; flag 0 MAX 0 = NONE
            -- the height of another one is no matter
            flag 1 0 0 = NONE
            """);
    }

    private static void flagOfNoPlace() {
        tell("NONE when there is no such place", """
            program 0: PUSH 1, ARG, PUT
            policy 0 0 0
            propose 0 7; endorse 0 0; submit 0; submit 0; submit 0; elect 0; cut 0 = 3; copy 0 1
            4 times: submit 0
            cut 0 = 4; copy 0 1; deliver 0 = 1; deliver 0 = 0
            flag 0 0 -1 = NONE; flag 0 0 3 = NONE; flag 0 0 4 = NONE; flag 0 0 MIN = NONE; flag 0 0 MAX = NONE
            flag 0 0 0 = 0; flag 0 0 2 = 4
            flag 0 1 -1 = NONE; flag 0 1 0 = 4; flag 0 1 3 = 4; flag 0 1 4 = NONE
            """);
    }
}
