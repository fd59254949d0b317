import java.util.ArrayList;
import java.util.HashMap;
import java.util.HashSet;
import java.util.List;
import java.util.Map;
import java.util.Set;
import java.util.TreeMap;

/**
 * The document once more, in another way: a peer keeps only how many blocks it has stored, and every state and
 * every flag is worked out anew from the chain. The random runs compare the program with it.
 */
final class ModelLedger {
    private static final int NONE = -1;

    private interface Rule {
        boolean isMet(Set<Integer> peers);
    }

    private static final class FailedRun extends Exception {
        private static final long serialVersionUID = 1;
    }

    /** A key's value and version. */
    private record Entry(int value, int version) {
    }

    /** A written value is null when nothing was written. */
    private record Result(Map<Integer, Integer> reads, List<Map<Integer, Integer>> ranges, Map<Integer, Integer> writes) {
    }

    private record History(Map<Integer, Entry> state, List<List<Integer>> flags) {
    }

    /** No record: two blocks of the same transactions are two blocks. */
    private static final class Block {
        final List<Integer> members;
        final int term;

        Block(List<Integer> members, int term) {
            this.members = members;
            this.term = term;
        }
    }

    private static final class Tx {
        int program;
        int argument;
        boolean closed;
        Result result;
        final Set<Integer> endorsers = new HashSet<>();
    }

    private static final class Orderer {
        boolean up = true;
        int term;
        List<Block> blocks = new ArrayList<>();
    }

    private static final class Peer {
        boolean up = true;
        int stored;
        int saved;
    }

    private final List<List<int[]>> programs = new ArrayList<>();
    private final List<List<Rule>> piles = new ArrayList<>();
    private final int[] rulesMade = new int[4];
    private final List<Tx> txs = new ArrayList<>();
    private final List<Integer> waiting = new ArrayList<>();
    private final List<Orderer> orderers = List.of(new Orderer(), new Orderer(), new Orderer());
    private final List<Peer> peers = List.of(new Peer(), new Peer(), new Peer(), new Peer());
    private List<Block> chain = new ArrayList<>();
    private Orderer leader;
    private int cuts;

    ModelLedger() {
        for (int i = 0; i < 4; i++) {
            programs.add(new ArrayList<>());
            piles.add(new ArrayList<>());
        }
    }

    private static <T> T at(List<T> list, int index) {
        return index < 0 || index >= list.size() ? null : list.get(index);
    }

    boolean code(int program, int op, int x) {
        List<int[]> instructions = at(programs, program);
        boolean wrong = instructions == null || op < 0 || op > 10 || op == 6 && (x < 0 || x > 12);
        if (wrong || instructions.size() == 12 || !txs.isEmpty()) {
            return false;
        }
        return instructions.add(new int[] {op, x});
    }

    boolean policy(int program, int k, int n) {
        List<Rule> pile = at(piles, program);
        if (pile == null || !txs.isEmpty() || rulesMade[program] == 9) {
            return false;
        }
        if (n == 0 && k >= 0 && k <= 3) {
            rulesMade[program]++;
            return pile.add(set -> set.contains(k));
        }
        if (n < 2 || n > 4 || k < 1 || k > n || pile.size() < n) {
            return false;
        }
        List<Rule> top = pile.subList(pile.size() - n, pile.size());
        List<Rule> parts = new ArrayList<>(top);
        top.clear();
        rulesMade[program]++;
        return pile.add(set -> parts.stream().filter(rule -> rule.isMet(set)).count() >= k);
    }

    int propose(int program, int argument) {
        if (at(programs, program) == null || txs.size() == 60) {
            return NONE;
        }
        Tx tx = new Tx();
        tx.program = program;
        tx.argument = argument;
        txs.add(tx);
        return txs.size() - 1;
    }

    int endorse(int t, int p) {
        Tx tx = at(txs, t);
        Peer peer = at(peers, p);
        if (tx == null || peer == null || tx.closed || !peer.up || tx.endorsers.contains(p)) {
            return NONE;
        }
        Result result;
        try {
            result = run(programs.get(tx.program), tx.argument, history(peer.stored).state());
        } catch (FailedRun failed) {
            return 1;
        }
        if (tx.result != null && !tx.result.equals(result)) {
            return 2;
        }
        tx.result = result;
        tx.endorsers.add(p);
        return 0;
    }

    private static Result run(List<int[]> program, int argument, Map<Integer, Entry> state) throws FailedRun {
        Result result = new Result(new TreeMap<>(), new ArrayList<>(), new TreeMap<>());
        List<Integer> stack = new ArrayList<>();
        for (int i = 0; i < program.size(); i++) {
            int x = program.get(i)[1];
            int op = program.get(i)[0];
            if (op == 0 || op == 1) {
                push(stack, op == 0 ? x : argument);
            } else if (op >= 2 && op <= 4) {
                int b = pop(stack);
                int a = pop(stack);
                push(stack, op == 2 ? a + b : op == 3 ? a - b : a < b ? 1 : 0);
            } else if (op == 5) {
                int a = pop(stack);
                push(stack, a);
                push(stack, a);
            } else if (op == 6) {
                i += pop(stack) == 0 ? x : 0;
            } else {
                touch(op, stack, state, result);
            }
        }
        return result;
    }

    private static void touch(int op, List<Integer> stack, Map<Integer, Entry> state, Result result) throws FailedRun {
        Entry nothing = new Entry(0, 0);
        int first = pop(stack);
        if (op == 7) {
            Entry entry = state.getOrDefault(Math.floorMod(first, 16), nothing);
            result.reads().put(Math.floorMod(first, 16), entry.version());
            push(stack, entry.value());
        } else if (op == 8) {
            result.writes().put(Math.floorMod(pop(stack), 16), first);
        } else if (op == 9) {
            result.writes().put(Math.floorMod(first, 16), null);
        } else {
            Map<Integer, Integer> range = new TreeMap<>();
            int sum = 0;
            for (int key = Math.floorMod(pop(stack), 16); key <= Math.floorMod(first, 16); key++) {
                range.put(key, state.getOrDefault(key, nothing).version());
                sum += state.getOrDefault(key, nothing).value();
            }
            result.ranges().add(range);
            if (result.ranges().size() > 2) {
                throw new FailedRun();
            }
            push(stack, sum);
        }
    }

    private static void push(List<Integer> stack, int x) throws FailedRun {
        stack.add(x);
        if (stack.size() > 8) {
            throw new FailedRun();
        }
    }

    private static int pop(List<Integer> stack) throws FailedRun {
        if (stack.isEmpty()) {
            throw new FailedRun();
        }
        return stack.remove(stack.size() - 1);
    }

    /** The state and the flags after the first so many blocks of the chain. */
    private History history(int height) {
        History history = new History(new HashMap<>(), new ArrayList<>());
        Set<Integer> seen = new HashSet<>();
        for (int b = 0; b < height; b++) {
            List<Integer> flags = new ArrayList<>();
            List<Integer> members = chain.get(b).members;
            for (int place = 0; place < members.size(); place++) {
                int t = members.get(place);
                int flag = seen.add(t) ? check(txs.get(t), history.state()) : 4;
                flags.add(flag);
                if (flag == 0) {
                    write(txs.get(t).result, history.state(), 1 + 4 * b + place);
                }
            }
            history.flags().add(flags);
        }
        return history;
    }

    private int check(Tx tx, Map<Integer, Entry> state) {
        List<Rule> pile = piles.get(tx.program);
        if (pile.isEmpty() || !pile.get(pile.size() - 1).isMet(tx.endorsers)) {
            return 1;
        }
        if (!holds(tx.result.reads(), state)) {
            return 2;
        }
        return tx.result.ranges().stream().allMatch(range -> holds(range, state)) ? 0 : 3;
    }

    private static boolean holds(Map<Integer, Integer> versions, Map<Integer, Entry> state) {
        for (Map.Entry<Integer, Integer> one : versions.entrySet()) {
            Entry now = state.get(one.getKey());
            if (one.getValue() != (now == null ? 0 : now.version())) {
                return false;
            }
        }
        return true;
    }

    private static void write(Result result, Map<Integer, Entry> state, int version) {
        for (Map.Entry<Integer, Integer> one : result.writes().entrySet()) {
            if (one.getValue() == null) {
                state.remove(one.getKey());
            } else {
                state.put(one.getKey(), new Entry(one.getValue(), version));
            }
        }
    }

    boolean submit(int t) {
        Tx tx = at(txs, t);
        if (tx == null || tx.endorsers.isEmpty() || waiting.size() == 20) {
            return false;
        }
        tx.closed = true;
        return waiting.add(t);
    }

    private static boolean isNewer(List<Block> one, List<Block> other) {
        int term = one.isEmpty() ? 0 : one.get(one.size() - 1).term;
        int otherTerm = other.isEmpty() ? 0 : other.get(other.size() - 1).term;
        return term == otherTerm ? one.size() > other.size() : term > otherTerm;
    }

    int elect(int o) {
        Orderer chosen = at(orderers, o);
        if (chosen == null || !chosen.up) {
            return NONE;
        }
        List<Orderer> up = orderers.stream().filter(other -> other.up).toList();
        if (up.stream().filter(other -> !isNewer(other.blocks, chosen.blocks)).count() < 2) {
            return NONE;
        }
        int term = 1 + up.stream().mapToInt(other -> other.term).max().getAsInt();
        up.forEach(other -> other.term = term);
        leader = chosen;
        return term;
    }

    int cut(int o) {
        Orderer orderer = at(orderers, o);
        boolean leads = orderer != null && orderer == leader;
        if (!leads || waiting.isEmpty() || orderer.blocks.size() == 40 || cuts == 60) {
            return NONE;
        }
        List<Integer> first = waiting.subList(0, Math.min(4, waiting.size()));
        Block block = new Block(new ArrayList<>(first), orderer.term);
        first.clear();
        orderer.blocks.add(block);
        cuts++;
        return block.members.size();
    }

    int copy(int a, int b) {
        Orderer from = at(orderers, a);
        Orderer to = at(orderers, b);
        if (from == null || to == null || from == to || from != leader || !to.up) {
            return NONE;
        }
        int same = 0;
        while (same < from.blocks.size() && same < to.blocks.size() && from.blocks.get(same) == to.blocks.get(same)) {
            same++;
        }
        if (from.blocks.size() > same && to.blocks.size() > same) {
            to.blocks = new ArrayList<>(to.blocks.subList(0, same));
        }
        int answer = from.blocks.size() > same ? 1 : 0;
        if (answer == 1) {
            to.blocks.add(from.blocks.get(same));
        }
        to.term = from.term;
        int agreed = agreed(from);
        if (agreed > chain.size()) {
            List<Block> longer = new ArrayList<>(from.blocks.subList(0, agreed));
            if (!longer.subList(0, chain.size()).equals(chain)) {
                throw new IllegalStateException("the chain changed before its end");
            }
            chain = longer;
        }
        return answer;
    }

    private int agreed(Orderer from) {
        int agreed = 0;
        for (int n = 1; n <= from.blocks.size(); n++) {
            Block block = from.blocks.get(n - 1);
            for (Orderer other : orderers) {
                if (other != from && block.term == from.term && at(other.blocks, n - 1) == block) {
                    agreed = n;
                }
            }
        }
        return agreed;
    }

    int power(int node, boolean on) {
        Orderer orderer = at(orderers, node);
        if (orderer != null) {
            if (orderer.up == on) {
                return NONE;
            }
            orderer.up = on;
            leader = orderer == leader ? null : leader;
            return 0;
        }
        Peer peer = node < 3 ? null : at(peers, node - 3);
        if (peer == null || peer.up == on) {
            return NONE;
        }
        peer.up = on;
        int applied = on ? peer.stored - peer.saved : 0;
        peer.saved = on ? peer.stored / 4 * 4 : peer.saved;
        return applied;
    }

    private boolean canStore(int p) {
        Peer peer = at(peers, p);
        return peer != null && peer.up && peer.stored < chain.size();
    }

    int deliver(int p) {
        if (!canStore(p)) {
            return NONE;
        }
        Peer peer = peers.get(p);
        peer.stored++;
        peer.saved = peer.stored / 4 * 4;
        List<Integer> flags = history(peer.stored).flags().get(peer.stored - 1);
        return (int) flags.stream().filter(flag -> flag == 0).count();
    }

    boolean tear(int p) {
        if (!canStore(p)) {
            return false;
        }
        peers.get(p).stored++;
        peers.get(p).up = false;
        return true;
    }

    int transaction(int t, int what) {
        Tx tx = at(txs, t);
        if (tx == null || what < 0 || what > 6) {
            return NONE;
        }
        int bits = tx.endorsers.stream().mapToInt(p -> 1 << p).sum();
        Result result = tx.result == null ? new Result(Map.of(), List.of(), Map.of()) : tx.result;
        int[] all = {
            tx.program, tx.argument, bits, result.reads().size(), result.ranges().size(), result.writes().size(),
            tx.closed ? 1 : 0,
        };
        return all[what];
    }

    int access(int t, int key, int what) {
        Tx tx = at(txs, t);
        if (tx == null || tx.result == null || key < 0 || key > 15 || what < 0 || what > 4) {
            return NONE;
        }
        if (what == 0) {
            return tx.result.reads().getOrDefault(key, NONE);
        }
        if (what <= 2) {
            Map<Integer, Integer> range = at(tx.result.ranges(), what - 1);
            return range == null ? NONE : range.getOrDefault(key, NONE);
        }
        boolean isWritten = tx.result.writes().containsKey(key);
        Integer value = tx.result.writes().get(key);
        if (what == 3) {
            return !isWritten ? 0 : value != null ? 1 : 2;
        }
        return value == null ? 0 : value;
    }

    int state(int p, int key, int what) {
        Peer peer = at(peers, p);
        if (peer == null || !peer.up || key < 0 || key > 15 || what < 0 || what > 1) {
            return NONE;
        }
        Entry entry = history(peer.stored).state().getOrDefault(key, new Entry(0, 0));
        return what == 0 ? entry.version() : entry.value();
    }

    int flag(int p, int b, int place) {
        Peer peer = at(peers, p);
        if (peer == null || !peer.up) {
            return NONE;
        }
        List<Integer> flags = at(history(peer.stored).flags(), b);
        Integer flag = flags == null ? null : at(flags, place);
        return flag == null ? NONE : flag;
    }

    int chain(int b, int place) {
        Block block = at(chain, b);
        return block == null ? NONE : place == NONE ? block.members.size() : member(block, place);
    }

    int log(int o, int b, int place) {
        Orderer orderer = at(orderers, o);
        Block block = orderer == null ? null : at(orderer.blocks, b);
        return block == null ? NONE : place == NONE ? block.term : member(block, place);
    }

    private static int member(Block block, int place) {
        Integer t = at(block.members, place);
        return t == null ? NONE : t;
    }

    int about(int what) {
        List<Integer> all = new ArrayList<>();
        orderers.forEach(orderer -> all.add(orderer.term));
        orderers.forEach(orderer -> all.add(orderer.blocks.size()));
        all.add(leader == null ? NONE : orderers.indexOf(leader));
        all.add(chain.size());
        all.add(waiting.size());
        all.add(txs.size());
        peers.forEach(peer -> all.add(peer.stored));
        peers.forEach(peer -> all.add(peer.saved));
        int up = 0;
        for (int node = 0; node < 7; node++) {
            up += (node < 3 ? orderers.get(node).up : peers.get(node - 3).up) ? 1 << node : 0;
        }
        all.add(up);
        Integer answer = at(all, what);
        return answer == null ? NONE : answer;
    }
}
