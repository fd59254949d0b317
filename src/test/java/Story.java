import java.util.ArrayList;
import java.util.List;
import java.util.Map;

/**
 * A run of calls on a new ledger, told as text, for one sentence of the document. Calls stand in rows or between
 * semicolons: "cut 0 = 4" is a call and the answer that is due; without an answer, it must only not be refused.
 * "program 1: ARG, DELETE" adds instructions. "3 times: submit #; cut 0" tells calls again, # being the number of
 * the round from 0, and #+2 two more. A row that begins with -- says why.
 *
 * Behind every call that is refused, all that can be seen of the ledger must be as before.
 */
final class Story {
    private static final int LIMIT = 512;
    private static final List<String> OPS =
        List.of("PUSH", "ARG", "ADD", "SUB", "LESS", "DUP", "SKIP", "GET", "PUT", "DELETE", "SUM");
    private static final Map<String, Integer> WORDS = Map.of("NONE", EndorsedLedger.NONE, "true", 1, "false", 0,
        "on", 1, "off", 0, "MIN", Integer.MIN_VALUE, "MAX", Integer.MAX_VALUE);

    private final Check check;
    private final String sentence;
    private final EndorsedLedger ledger = new EndorsedLedger();
    private final List<Call> taken = new ArrayList<>();
    private View seen = null;
    private int count = 0;

    private Story(Check check, String sentence) {
        this.check = check;
        this.sentence = sentence;
    }

    static void tell(Check check, String sentence, String rows) {
        Story story = new Story(check, sentence);
        for (String row : rows.split("\n")) {
            if (!row.isBlank() && !row.strip().startsWith("--")) {
                story.tellRow(row.strip());
            }
        }
    }

    private void tellRow(String row) {
        int times = row.indexOf(" times: ");
        int rounds = times < 0 ? 1 : Integer.parseInt(row.substring(0, times));
        String[] parts = (times < 0 ? row : row.substring(times + 8)).split(";");
        for (int round = 0; round < rounds; round++) {
            for (String part : parts) {
                tellPart(part.strip(), round);
            }
        }
    }

    private void tellPart(String part, int round) {
        if (part.startsWith("program ")) {
            addProgram(part.substring(8).split(":"));
        } else if (!part.isEmpty()) {
            String[] sides = part.split(" = ");
            String[] words = sides[0].strip().split(" +");
            int[] args = new int[words.length - 1];
            for (int i = 0; i < args.length; i++) {
                args[i] = number(words[i + 1], round);
            }
            Call call = new Call(words[0], args);
            if (sides.length == 2) {
                makeDue(call, number(sides[1].strip(), round));
            } else {
                makeTaken(call);
            }
        }
    }

    private void addProgram(String[] sides) {
        int program = Integer.parseInt(sides[0]);
        for (String instruction : sides[1].split(",")) {
            String[] words = instruction.strip().split(" +");
            int x = words.length == 2 ? number(words[1], 0) : 0;
            makeTaken(new Call("code", program, OPS.indexOf(words[0]), x));
        }
    }

    private static int number(String word, int round) {
        if (word.startsWith("#")) {
            return round + (word.length() == 1 ? 0 : Integer.parseInt(word.substring(1)));
        }
        if (OPS.contains(word)) {
            return OPS.indexOf(word);
        }
        return WORDS.containsKey(word) ? WORDS.get(word) : Integer.parseInt(word);
    }

    private void makeDue(Call call, int due) {
        check.due(sentence + ": call " + count + ", " + call, make(call), due);
    }

    private void makeTaken(Call call) {
        String label = sentence + ": call " + count + ", " + call;
        int answer = make(call);
        check.yes(label + " is taken, not refused by " + answer, !call.leavesAll(answer));
    }

    private int make(Call call) {
        count++;
        if (count > LIMIT) {
            throw new IllegalStateException("more than 512 calls: " + sentence);
        }
        int answer = call.on(ledger);
        if (!call.leavesAll(answer)) {
            taken.add(call);
            seen = null;
        } else if (!call.isQuestion()) {
            nothingHasChanged(call);
        }
        return answer;
    }

    /** Calls that were refused before were found to change nothing, so they are left out of the view. */
    private void nothingHasChanged(Call refused) {
        int room = LIMIT - 1 - taken.size();
        if (seen == null) {
            seen = new View(taken, room);
        }
        List<Call> more = new ArrayList<>(taken);
        more.add(refused);
        String difference = seen.difference(new View(more, room));
        check.yes(sentence + ": " + refused + " was refused, but then " + difference, difference == null);
    }
}
