/** The edges that 'Terms' names for programs, states and runs. */
final class RunEdgesTest {
    private static final String EIGHT = "PUSH 1, PUSH 1, PUSH 1, PUSH 1, PUSH 1, PUSH 1, PUSH 1, PUSH 1";
    /** Of an int as a key only the lowest four bits count. */
    private static final int[][] INTS_AND_KEYS = {
        {0, 0}, {1, 1}, {14, 14}, {15, 15}, {16, 0}, {17, 1}, {31, 15}, {32, 0}, {-1, 15}, {-2, 14}, {-15, 1},
        {-16, 0}, {-17, 15}, {Integer.MIN_VALUE, 0}, {Integer.MAX_VALUE, 15},
    };
    private static final Check check = new Check();

    public static void main(String[] args) {
        lengthsOfPrograms();
        valuesAndVersions();
        stackIsEmptyAtFirst();
        stackHasAtMostEight();
        push();
        arg();
        addWraps();
        subWraps();
        less();
        dup();
        skipOnZeroAlone();
        skipCounts();
        skipBeyondTheEnd();
        getMasksItsKey();
        putMasksItsKey();
        deleteMasksItsKey();
        sumMasksItsKeys();
        sumOfNoKeys();
        sumWraps();
        ownWritingsAreNotSeen();
        theLastWritingCounts();
        poppingFromAnEmptyStack();
        pushingANinth();
        readingAThirdRange();
        noneOneOrTwoRanges();
        theStackInTheEnd();
        check.end();
    }

    private static void tell(String sentence, String rows) {
        Story.tell(check, sentence, rows);
    }

    /** The last int that program 0, which has these instructions, pushes with an argument: it is written at key 3. */
    private static void pushes(String sentence, String instructions, int argument, int due) {
        String program = "program 0: PUSH 3, " + instructions + ", PUT\n";
        tell(sentence, program + "propose 0 " + argument + "; endorse 0 0 = 0; access 0 3 4 = " + due);
    }

    /** What endorse answers of a program that has these instructions. */
    private static void ends(String sentence, String instructions, int due) {
        tell(sentence, "program 0: " + instructions + "\npropose 0 0; endorse 0 0 = " + due);
    }

    private static void lengthsOfPrograms() {
        String sentence = "PROGRAMS 0 .. 3 have up to 12 INSTRUCTIONS";
        String deletes = "PUSH 0, DELETE, PUSH 1, DELETE, PUSH 2, DELETE, PUSH 3, DELETE, PUSH 4, DELETE, PUSH 5";
        for (int program = 0; program < 4; program++) {
            tell(sentence, "propose " + program + " 5 = 0; endorse 0 0 = 0; transaction 0 5 = 0");
            tell(sentence, ("program <p>: " + deletes + ", DELETE" + """

                4 times: propose # 0 = #; endorse # 0 = 0
                transaction <p> 5 = 6; access <p> 5 3 = 2; access <p> 0 3 = 2
                """).replace("<p>", "" + program));
        }
        tell(sentence, "program 0: " + deletes + "\npropose 0 0; endorse 0 0 = 0; transaction 0 5 = 5");
    }

    private static void valuesAndVersions() {
        tell("for each KEY 0 .. 15, a VALUE (an int) and a VERSION above 0, or nothing there (version 0, value 0)", """
            program 0: PUSH 0, PUSH MIN, PUT, PUSH 15, PUSH MAX, PUT, PUSH 1, PUSH -1, PUT, PUSH 14, PUSH 0, PUT
            program 1: PUSH 0, DELETE, PUSH 15, DELETE, PUSH 1, DELETE, PUSH 14, DELETE
            policy 0 0 0; policy 1 0 0; propose 0 0; propose 1 0; endorse 0 0; endorse 1 0
            elect 0; submit 0; cut 0; copy 0 1
            16 times: state 0 # 0 = 0; state 0 # 1 = 0
            deliver 0 = 1
            state 0 0 0 = 1; state 0 0 1 = MIN; state 0 15 0 = 1; state 0 15 1 = MAX
            state 0 1 0 = 1; state 0 1 1 = -1; state 0 14 0 = 1; state 0 14 1 = 0
            12 times: state 0 #+2 0 = 0; state 0 #+2 1 = 0
            submit 1; cut 0; copy 0 1; deliver 0 = 1
            16 times: state 0 # 0 = 0; state 0 # 1 = 0
            """);
    }

    private static void stackIsEmptyAtFirst() {
        tell("has a STACK of ints, empty at first", """
            program 0: ARG, ARG
            program 1: DELETE
            program 2: PUSH 1, PUT
            propose 0 7; endorse 0 0 = 0
            -- what an earlier run left is gone
            propose 1 7; endorse 1 0 = 1; propose 2 7; endorse 2 0 = 1
            """);
    }

    private static void stackHasAtMostEight() {
        String sentence = "a STACK of ints, empty at first, at most 8";
        ends(sentence, EIGHT, 0);
        ends(sentence, EIGHT + ", PUSH 1", 1);
        ends(sentence, EIGHT + ", ADD, PUSH 1", 0);
        ends(sentence, EIGHT + ", ADD, PUSH 1, PUSH 1", 1);
    }

    private static void push() {
        String sentence = "PUSH x: x";
        for (int x : new int[] {0, -1, 1, Integer.MIN_VALUE, Integer.MAX_VALUE}) {
            pushes(sentence, "PUSH " + x, 5, x);
        }
    }

    private static void arg() {
        String sentence = "ARG: the argument";
        for (int argument : new int[] {0, -1, 1, Integer.MIN_VALUE, Integer.MAX_VALUE}) {
            pushes(sentence, "ARG", argument, argument);
        }
    }

    private static void addWraps() {
        String sentence = "ADD: pops b, then a; a + b (wraps)";
        pushes(sentence, "PUSH MAX, ARG, ADD", 0, Integer.MAX_VALUE);
        pushes(sentence, "PUSH MAX, ARG, ADD", 1, Integer.MIN_VALUE);
        pushes(sentence, "PUSH MAX, ARG, ADD", Integer.MAX_VALUE, -2);
        pushes(sentence, "PUSH MIN, ARG, ADD", 0, Integer.MIN_VALUE);
        pushes(sentence, "PUSH MIN, ARG, ADD", -1, Integer.MAX_VALUE);
        pushes(sentence, "PUSH MIN, ARG, ADD", Integer.MIN_VALUE, 0);
    }

    private static void subWraps() {
        String sentence = "SUB: pops b, then a; a - b (wraps)";
        pushes(sentence, "PUSH 9, ARG, SUB", 4, 5);
        pushes(sentence, "PUSH MIN, ARG, SUB", 0, Integer.MIN_VALUE);
        pushes(sentence, "PUSH MIN, ARG, SUB", 1, Integer.MAX_VALUE);
        pushes(sentence, "PUSH MAX, ARG, SUB", 0, Integer.MAX_VALUE);
        pushes(sentence, "PUSH MAX, ARG, SUB", -1, Integer.MIN_VALUE);
        pushes(sentence, "PUSH 0, ARG, SUB", Integer.MIN_VALUE, Integer.MIN_VALUE);
    }

    private static void less() {
        String sentence = "LESS: pops b, then a; 1 if a is less than b, else 0";
        pushes(sentence, "PUSH 4, ARG, LESS", 3, 0);
        pushes(sentence, "PUSH 4, ARG, LESS", 4, 0);
        pushes(sentence, "PUSH 4, ARG, LESS", 5, 1);
        pushes(sentence, "PUSH MIN, ARG, LESS", Integer.MIN_VALUE, 0);
        pushes(sentence, "PUSH MIN, ARG, LESS", Integer.MIN_VALUE + 1, 1);
        pushes(sentence, "PUSH MAX, ARG, LESS", Integer.MAX_VALUE, 0);
        pushes(sentence, "PUSH MAX, ARG, LESS", Integer.MAX_VALUE - 1, 0);
        // a difference would wrap here
        pushes(sentence, "PUSH MIN, ARG, LESS", Integer.MAX_VALUE, 1);
        pushes(sentence, "PUSH MAX, ARG, LESS", Integer.MIN_VALUE, 0);
    }

    private static void dup() {
        String sentence = "DUP: pops a; a, and a again";
        pushes(sentence, "ARG, DUP, ADD", 21, 42);
        ends(sentence, "DUP", 1);
        ends(sentence, "PUSH 1, DUP, PUT", 0);
        ends(sentence, "PUSH 1, DUP, PUT, DELETE", 1);
        ends(sentence, "PUSH 1, DUP, DUP, DUP, DUP, DUP, DUP, DUP", 0);
        ends(sentence, "PUSH 1, DUP, DUP, DUP, DUP, DUP, DUP, DUP, DUP", 1);
    }

    private static void skipOnZeroAlone() {
        String sentence = "SKIP x: pops a; if it is 0 the next x instructions are left out";
        String body = "PUSH 8, ARG, SKIP 2, PUSH 1, ADD";
        pushes(sentence, body, 0, 8);
        for (int other : new int[] {1, -1, 2, Integer.MIN_VALUE, Integer.MAX_VALUE}) {
            pushes(sentence, body, other, 9);
        }
        ends(sentence + "; pushes nothing", "PUSH 0, SKIP 0, DELETE", 1);
        ends(sentence + "; pushes nothing", "PUSH 1, SKIP 0, DELETE", 1);
    }

    private static void skipCounts() {
        String sentence = "the next x instructions are left out";
        int[] due = {15, 14, 12, 8};
        for (int x = 0; x <= 3; x++) {
            String body = ", PUSH 1, ADD, PUSH 2, ADD, PUSH 4, ADD";
            pushes(sentence, "PUSH 8, PUSH 0, SKIP " + 2 * x + body, 0, due[x]);
        }
        pushes("a SKIP that is left out leaves out nothing", "PUSH 8, ARG, SKIP 1, SKIP 12", 0, 8);
        pushes("what fails may be left out", "PUSH 8, ARG, SKIP 3, ADD, ADD, ADD", 0, 8);
    }

    private static void skipBeyondTheEnd() {
        String sentence = "(fewer if there are not so many)";
        ends(sentence, "PUSH 0, SKIP 12", 0);
        ends(sentence, "PUSH 0, SKIP 1", 0);
        ends(sentence, "PUSH 0, SKIP 12, ADD", 0);
        ends(sentence, "PUSH 0, SKIP 1, ADD", 0);
        ends(sentence, "PUSH 0, SKIP 1, ADD, ADD", 1);
        ends(sentence, "PUSH 0, SKIP 12, ADD, ADD, ADD, ADD, ADD, ADD, ADD, ADD, ADD, ADD", 0);
        ends(sentence, "PUSH 0, SKIP 10, ADD, ADD, ADD, ADD, ADD, ADD, ADD, ADD, ADD, ADD", 0);
        ends(sentence, "PUSH 0, SKIP 9, ADD, ADD, ADD, ADD, ADD, ADD, ADD, ADD, ADD, ADD", 1);
        tell("what one run left out is not left out of the next", """
            program 0: PUSH 0, SKIP 12
            program 1: PUSH 4, DELETE
            propose 0 0; propose 1 0; endorse 0 0 = 0; endorse 1 0 = 0; transaction 1 5 = 1
            """);
    }

    private static String perKey(int what, int key, int there, int elsewhere) {
        StringBuilder rows = new StringBuilder();
        for (int i = 0; i < 16; i++) {
            rows.append("access 0 " + i + " " + what + " = " + (i == key ? there : elsewhere) + "\n");
        }
        return rows.toString();
    }

    private static void getMasksItsKey() {
        for (int[] pair : INTS_AND_KEYS) {
            tell("GET: pops k; the value of key k & 15; that key is READ", "program 0: ARG, GET\npropose 0 " + pair[0]
                + "\nendorse 0 0 = 0; transaction 0 3 = 1\n" + perKey(0, pair[1], 0, -1));
        }
    }

    private static void putMasksItsKey() {
        for (int[] pair : INTS_AND_KEYS) {
            tell("PUT: pops v, then k; key k & 15 is WRITTEN: v", "program 0: ARG, PUSH -9, PUT\npropose 0 " + pair[0]
                + "\nendorse 0 0 = 0; transaction 0 5 = 1\n" + perKey(3, pair[1], 1, 0) + perKey(4, pair[1], -9, 0));
        }
    }

    private static void deleteMasksItsKey() {
        for (int[] pair : INTS_AND_KEYS) {
            tell("DELETE: pops k; key k & 15 is WRITTEN: nothing", "program 0: ARG, DELETE\npropose 0 " + pair[0]
                + "\nendorse 0 0 = 0; transaction 0 5 = 1\n" + perKey(3, pair[1], 2, 0) + perKey(4, pair[1], 0, 0));
        }
    }

    private static void sumMasksItsKeys() {
        for (int[] low : INTS_AND_KEYS) {
            for (int[] high : INTS_AND_KEYS) {
                StringBuilder rows = new StringBuilder("program 0: PUSH " + low[0] + ", PUSH " + high[0] + ", SUM\n");
                rows.append("propose 0 0; endorse 0 0 = 0; transaction 0 4 = 1; transaction 0 3 = 0\n");
                for (int key = 0; key < 16; key++) {
                    boolean isIn = low[1] <= key && key <= high[1];
                    rows.append("access 0 " + key + " 1 = " + (isIn ? 0 : -1) + "\n");
                }
                tell("SUM: the keys from l & 15 to h & 15", rows.toString());
            }
        }
    }

    /** Key 0 has the greatest int, 15 has 1; the other programs write a sum at key 2. */
    private static final String TWO_KEYS = """
        program 0: PUSH 0, PUSH MAX, PUT, PUSH 15, PUSH 1, PUT
        program 1: PUSH 2, PUSH 0, ARG, SUM, PUT
        program 2: PUSH 2, ARG, PUSH 15, SUM, PUT
        program 3: PUSH 2, ARG, PUSH 0, SUM, PUT
        policy 0 0 0; propose 0 0; endorse 0 0; submit 0; elect 0; cut 0; copy 0 1; deliver 0 = 1
        """;

    private static void sumOfNoKeys() {
        tell("(0 if there are no such keys); also when it is empty", """
            program 0: PUSH 2, PUSH 1, PUSH 0, SUM, PUT
            program 1: PUSH 2, PUSH 15, PUSH 0, SUM, PUT
            program 2: PUSH 2, PUSH 15, PUSH 14, SUM, PUT
            propose 0 0; propose 1 0; propose 2 0
            3 times: endorse # 0 = 0; transaction # 4 = 1; access # 2 4 = 0; access # 0 1 = NONE; access # 15 1 = NONE
            """);
        tell("(0 if there are no such keys), beside 0 .. 0 and 15 .. 15, where there is one", TWO_KEYS + """
            propose 2 15; endorse 1 0 = 0; access 1 2 4 = 1
            propose 1 0; endorse 2 0 = 0; access 2 2 4 = MAX
            propose 3 1; endorse 3 0 = 0; access 3 2 4 = 0
            propose 3 0; endorse 4 0 = 0; access 4 2 4 = MAX
            """);
    }

    private static void sumWraps() {
        tell("the sum (wraps) of the values of the keys from l & 15 to h & 15", TWO_KEYS + """
            propose 1 0; endorse 1 0 = 0; access 1 2 4 = MAX
            propose 1 14; endorse 2 0 = 0; access 2 2 4 = MAX
            propose 1 15; endorse 3 0 = 0; access 3 2 4 = MIN
            propose 2 0; endorse 4 0 = 0; access 4 2 4 = MIN
            propose 2 1; endorse 5 0 = 0; access 5 2 4 = 1
            propose 2 15; endorse 6 0 = 0; access 6 2 4 = 1
            -- with their versions, also of such at which nothing is
            access 3 0 1 = 1; access 3 1 1 = 0; access 3 14 1 = 0; access 3 15 1 = 1
            """);
    }

    private static void ownWritingsAreNotSeen() {
        tell("What is written is not seen by GET and SUM of the same run", """
            program 0: PUSH 4, PUSH 9, PUT, PUSH 5, PUSH 4, GET, PUT
            program 1: PUSH 4, PUSH 9, PUT, PUSH 5, PUSH 4, PUSH 4, SUM, PUT
            program 2: PUSH 4, DELETE, PUSH 5, PUSH 4, GET, PUT
            program 3: PUSH 4, DELETE, PUSH 5, PUSH 4, PUSH 4, SUM, PUT
            policy 0 0 0
            propose 0 0; endorse 0 0 = 0; access 0 5 4 = 0; access 0 4 0 = 0
            propose 1 0; endorse 1 0 = 0; access 1 5 4 = 0; access 1 4 1 = 0
            submit 0; elect 0; cut 0; copy 0 1; deliver 0 = 1
            propose 2 0; endorse 2 0 = 0; access 2 5 4 = 9; access 2 4 0 = 1
            propose 3 0; endorse 3 0 = 0; access 3 5 4 = 9; access 3 4 1 = 1
            """);
    }

    private static void theLastWritingCounts() {
        tell("of several writings of a key the last one counts", """
            program 0: PUSH 4, PUSH 7, PUT, PUSH 20, PUSH 8, PUT
            program 1: PUSH 4, PUSH 7, PUT, PUSH 20, DELETE
            program 2: PUSH 4, DELETE, PUSH 20, PUSH 8, PUT
            program 3: PUSH 4, DELETE, PUSH 20, DELETE
            4 times: propose # 0; endorse # 0 = 0; transaction # 5 = 1
            access 0 4 3 = 1; access 0 4 4 = 8
            access 1 4 3 = 2; access 1 4 4 = 0
            access 2 4 3 = 1; access 2 4 4 = 8
            access 3 4 3 = 2; access 3 4 4 = 0
            """);
    }

    private static void poppingFromAnEmptyStack() {
        String sentence = "A run FAILS when it pops from an empty stack";
        for (String one : new String[] {"DUP", "SKIP 0", "SKIP 12", "GET", "DELETE"}) {
            ends(sentence, one, 1);
            ends(sentence, "PUSH 1, " + one, 0);
            ends(sentence, "PUSH 1, DELETE, " + one, 1);
        }
        for (String two : new String[] {"ADD", "SUB", "LESS", "PUT", "SUM"}) {
            ends(sentence, two, 1);
            ends(sentence, "PUSH 1, " + two, 1);
            ends(sentence, "PUSH 1, PUSH 1, " + two, 0);
            ends(sentence, "PUSH 1, PUSH 1, DELETE, " + two, 1);
        }
        for (String pushing : new String[] {"PUSH 1", "ARG", "PUSH 1, GET", "PUSH 1, PUSH 1, ADD",
            "PUSH 1, PUSH 1, SUB", "PUSH 1, PUSH 1, LESS", "PUSH 1, PUSH 1, SUM"}) {
            ends("one int is pushed", pushing + ", DELETE", 0);
            ends("and no second one", pushing + ", DELETE, DELETE", 1);
        }
        for (String silent : new String[] {"PUSH 1, DELETE", "PUSH 1, PUSH 1, PUT", "PUSH 1, SKIP 0"}) {
            ends("pushes nothing", silent + ", DELETE", 1);
        }
        ends("a failure is not made good by what follows", "DELETE, PUSH 1, DELETE", 1);
    }

    private static void pushingANinth() {
        String sentence = "A run FAILS when it pushes a ninth int";
        for (String ninth : new String[] {"PUSH 1", "ARG", "DUP"}) {
            ends(sentence, EIGHT + ", " + ninth, 1);
            ends(sentence, EIGHT.substring(0, EIGHT.lastIndexOf(',')) + ", " + ninth, 0);
            ends(sentence, EIGHT + ", " + ninth + ", DELETE", 1);
        }
        for (String popsFirst : new String[] {"GET", "ADD", "SUB", "LESS", "SUM", "PUT", "DELETE", "SKIP 0"}) {
            ends("what pops before it pushes", EIGHT + ", " + popsFirst, 0);
        }
        ends(sentence, EIGHT + ", GET, ARG", 1);
        ends(sentence, EIGHT + ", SUM, ARG", 0);
        ends(sentence, EIGHT + ", SUM, ARG, ARG", 1);
    }

    private static void readingAThirdRange() {
        String sentence = "A run FAILS when it reads a third range";
        ends(sentence, "ARG, ARG, SUM, ARG, SUM", 0);
        ends(sentence, "ARG, ARG, SUM, ARG, SUM, ARG, SUM", 1);
        ends("an empty range is one, too", "PUSH 5, PUSH 4, SUM, PUSH -1, SUM, PUSH 1, PUSH 0, SUM", 1);
        ends("an empty range is one, too", "PUSH 5, PUSH 4, SUM, DELETE, PUSH 1, PUSH 0, SUM", 0);
        ends("a range that is left out is none", "ARG, ARG, SUM, ARG, SUM, SKIP 3, ARG, ARG, SUM", 0);
        tell("the ranges of an earlier run do not count", """
            program 0: ARG, ARG, SUM, ARG, SUM
            3 times: propose 0 0; endorse # 0 = 0; endorse # 1 = 0
            """);
    }

    private static void noneOneOrTwoRanges() {
        tell("its ranges (none, one or two) in their order, with the versions of their keys", """
            program 0: ARG, GET
            program 1: PUSH 3, PUSH 5, SUM
            program 2: PUSH 3, PUSH 5, SUM, PUSH 1, SUM
            program 3: PUSH 5, PUSH 4, SUM, DELETE, PUSH 3, PUSH 5, SUM
            4 times: propose # 0; endorse # 0 = 0
            transaction 0 4 = 0; transaction 1 4 = 1; transaction 2 4 = 2; transaction 3 4 = 2
            16 times: access 0 # 1 = NONE; access 0 # 2 = NONE; access 1 # 2 = NONE; access 3 # 1 = NONE
            access 1 2 1 = NONE; access 1 3 1 = 0; access 1 5 1 = 0; access 1 6 1 = NONE
            access 2 2 1 = NONE; access 2 3 1 = 0; access 2 5 1 = 0; access 2 6 1 = NONE
            access 2 0 2 = 0; access 2 1 2 = 0; access 2 2 2 = NONE
            access 3 2 2 = NONE; access 3 3 2 = 0; access 3 5 2 = 0; access 3 6 2 = NONE
            """);
    }

    private static void theStackInTheEnd() {
        tell("(What is on the stack in the end does not matter.)", """
            program 0: PUSH 4, GET, ARG, ARG, ARG, ARG, ARG, ARG, ARG
            program 1: PUSH 4, GET, DELETE
            propose 0 6; propose 1 6
            4 times: endorse 0 # = 0; endorse 1 # = 0
            transaction 0 2 = 15; transaction 1 2 = 15; transaction 0 3 = 1; transaction 0 5 = 0
            """);
    }
}
