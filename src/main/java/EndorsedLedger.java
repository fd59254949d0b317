/**
 * A ledger whose members run a transaction first, order it then, and check it last.
 */
public final class EndorsedLedger {
    /** Refused, or nothing there. */
    public static final int NONE = -1;

    private static final int PROGRAMS = 4;
    private static final int INSTRUCTIONS = 12;
    private static final int RULES = 9;
    private static final int PEER_SETS = 16;
    private static final int KEYS = 16;
    private static final int STACK = 8;
    private static final int RANGES = 2;
    private static final int TRANSACTIONS = 60;
    private static final int WAITING = 20;
    private static final int BLOCKS = 60;
    private static final int BLOCK_SIZE = 4;
    private static final int ORDERERS = 3;
    private static final int MAJORITY = 2;
    private static final int LOG_BLOCKS = 40;
    private static final int PEERS = 4;
    private static final int SAVE_EVERY = 4;

    private static final int OPS = 11;
    private static final int PUSH = 0;
    private static final int ARG = 1;
    private static final int ADD = 2;
    private static final int SUB = 3;
    private static final int LESS = 4;
    private static final int DUP = 5;
    private static final int SKIP = 6;
    private static final int GET = 7;
    private static final int PUT = 8;
    private static final int DELETE = 9;
    private static final int SUM = 10;

    private static final int ENDORSED = 0;
    private static final int RUN_FAILED = 1;
    private static final int RESULT_DIFFERS = 2;

    private static final int VALID = 0;
    private static final int POLICY_NOT_MET = 1;
    private static final int VERSION_CHANGED = 2;
    private static final int RANGE_CHANGED = 3;
    private static final int DUPLICATE = 4;

    private final Program[] programs = new Program[PROGRAMS];
    private final Transaction[] transactions = new Transaction[TRANSACTIONS];
    private int proposed = 0;
    private final int[] waiting = new int[WAITING];
    private int waitingCount = 0;
    private final Block[] blocks = new Block[BLOCKS];
    private int cutCount = 0;
    private final Orderer[] orderers = new Orderer[ORDERERS];
    private int leader = NONE;
    private final BlockList agreed = new BlockList();
    private final Peer[] peers = new Peer[PEERS];
    private final Run run = new Run();

    public EndorsedLedger() {
        for (int i = 0; i < PROGRAMS; i++) {
            programs[i] = new Program();
        }
        for (int i = 0; i < TRANSACTIONS; i++) {
            transactions[i] = new Transaction();
        }
        for (int i = 0; i < BLOCKS; i++) {
            blocks[i] = new Block();
        }
        for (int i = 0; i < ORDERERS; i++) {
            orderers[i] = new Orderer();
        }
        for (int i = 0; i < PEERS; i++) {
            peers[i] = new Peer();
        }
    }

    public boolean code(int program, int op, int x) {
        if (!within(program, PROGRAMS) || !within(op, OPS) || proposed > 0) {
            return false;
        }
        if (op == SKIP && !within(x, INSTRUCTIONS + 1)) {
            return false;
        }
        return programs[program].addInstruction(op, x);
    }

    public boolean policy(int program, int k, int n) {
        if (!within(program, PROGRAMS) || proposed > 0) {
            return false;
        }
        if (n == 0) {
            return within(k, PEERS) && programs[program].addLeaf(k);
        }
        return n >= 2 && n <= 4 && k >= 1 && k <= n && programs[program].joinRules(k, n);
    }

    public int propose(int program, int argument) {
        if (!within(program, PROGRAMS) || proposed >= TRANSACTIONS) {
            return NONE;
        }
        transactions[proposed].program = program;
        transactions[proposed].argument = argument;
        proposed++;
        return proposed - 1;
    }

    public int endorse(int t, int p) {
        if (!within(t, proposed) || !isUpPeer(p)) {
            return NONE;
        }
        Transaction transaction = transactions[t];
        if (transaction.closed || transaction.isEndorsedBy(p)) {
            return NONE;
        }
        if (!run.succeeds(programs[transaction.program], transaction.argument, peers[p].current)) {
            return RUN_FAILED;
        }
        if (transaction.hasResult() && !transaction.result.isSame(run.result)) {
            return RESULT_DIFFERS;
        }
        transaction.result.become(run.result);
        transaction.endorsers |= 1 << p;
        return ENDORSED;
    }

    public boolean submit(int t) {
        if (!within(t, proposed) || !transactions[t].hasResult() || waitingCount >= WAITING) {
            return false;
        }
        waiting[waitingCount] = t;
        waitingCount++;
        transactions[t].closed = true;
        return true;
    }

    public int elect(int o) {
        if (!within(o, ORDERERS) || !orderers[o].up || supporters(o) < MAJORITY) {
            return NONE;
        }
        int term = greatestTerm() + 1;
        for (int i = 0; i < ORDERERS; i++) {
            if (orderers[i].up) {
                orderers[i].term = term;
            }
        }
        leader = o;
        return term;
    }

    public int cut(int o) {
        if (!isLeader(o) || waitingCount == 0 || cutCount >= BLOCKS) {
            return NONE;
        }
        Orderer orderer = orderers[o];
        if (orderer.held.length >= LOG_BLOCKS) {
            return NONE;
        }
        int size = Math.min(waitingCount, BLOCK_SIZE);
        blocks[cutCount].fill(waiting, size, orderer.term);
        dropFirstWaiting(size);
        orderer.held.add(cutCount);
        cutCount++;
        return size;
    }

    public int copy(int a, int b) {
        if (!isLeader(a) || !within(b, ORDERERS) || a == b || !orderers[b].up) {
            return NONE;
        }
        int added = bringNearer(orderers[a].held, orderers[b].held);
        orderers[b].term = orderers[a].term;
        int count = agreedCount(a);
        if (count > agreed.length) {
            agreed.becomeFirst(orderers[a].held, count);
        }
        return added;
    }

    public int power(int node, boolean on) {
        if (within(node, ORDERERS)) {
            return powerOrderer(node, on);
        }
        if (within(node - ORDERERS, PEERS)) {
            return powerPeer(peers[node - ORDERERS], on);
        }
        return NONE;
    }

    public int deliver(int p) {
        if (!canStoreNext(p)) {
            return NONE;
        }
        peers[p].stored++;
        return applyNext(peers[p]);
    }

    public boolean tear(int p) {
        if (!canStoreNext(p)) {
            return false;
        }
        peers[p].stored++;
        peers[p].up = false;
        return true;
    }

    public int transaction(int t, int what) {
        if (!within(t, proposed)) {
            return NONE;
        }
        Transaction transaction = transactions[t];
        switch (what) {
            case 0:
                return transaction.program;
            case 1:
                return transaction.argument;
            case 2:
                return transaction.endorsers;
            case 3:
                return transaction.result.readCount();
            case 4:
                return transaction.result.ranges;
            case 5:
                return transaction.result.writtenCount();
            case 6:
                return transaction.closed ? 1 : 0;
            default:
                return NONE;
        }
    }

    public int access(int t, int key, int what) {
        if (!within(t, proposed) || !within(key, KEYS) || !within(what, Result.ROWS)) {
            return NONE;
        }
        Transaction transaction = transactions[t];
        return transaction.hasResult() ? transaction.result.cells[what * KEYS + key] : NONE;
    }

    public int state(int p, int key, int what) {
        if (!isUpPeer(p) || !within(key, KEYS)) {
            return NONE;
        }
        switch (what) {
            case 0:
                return peers[p].current.versions[key];
            case 1:
                return peers[p].current.values[key];
            default:
                return NONE;
        }
    }

    public int flag(int p, int b, int place) {
        if (!isUpPeer(p) || !within(b, peers[p].current.height)) {
            return NONE;
        }
        if (!within(place, agreedBlock(b).size)) {
            return NONE;
        }
        return peers[p].flags[b * BLOCK_SIZE + place];
    }

    public int chain(int b, int place) {
        if (!within(b, agreed.length)) {
            return NONE;
        }
        Block block = agreedBlock(b);
        return place == NONE ? block.size : block.transactionAt(place);
    }

    public int log(int o, int b, int place) {
        if (!within(o, ORDERERS) || !within(b, orderers[o].held.length)) {
            return NONE;
        }
        Block block = blocks[orderers[o].held.numbers[b]];
        return place == NONE ? block.term : block.transactionAt(place);
    }

    public int about(int what) {
        if (within(what, ORDERERS)) {
            return orderers[what].term;
        }
        if (within(what - 3, ORDERERS)) {
            return orderers[what - 3].held.length;
        }
        if (within(what - 10, PEERS)) {
            return peers[what - 10].stored;
        }
        if (within(what - 14, PEERS)) {
            return peers[what - 14].saved.height;
        }
        switch (what) {
            case 6:
                return leader;
            case 7:
                return agreed.length;
            case 8:
                return waitingCount;
            case 9:
                return proposed;
            case 18:
                return nodesUp();
            default:
                return NONE;
        }
    }

    private static boolean within(int index, int size) {
        return index >= 0 && index < size;
    }

    private boolean isUpPeer(int p) {
        return within(p, PEERS) && peers[p].up;
    }

    private boolean isLeader(int o) {
        return within(o, ORDERERS) && o == leader;
    }

    private int nodesUp() {
        int nodes = 0;
        for (int o = 0; o < ORDERERS; o++) {
            nodes += orderers[o].up ? 1 << o : 0;
        }
        for (int p = 0; p < PEERS; p++) {
            nodes += peers[p].up ? 1 << (ORDERERS + p) : 0;
        }
        return nodes;
    }

    /** How many orderers that are up, o itself among them, have a log that is not newer than o's. */
    private int supporters(int o) {
        int count = 0;
        for (int i = 0; i < ORDERERS; i++) {
            if (orderers[i].up && !isNewer(orderers[i].held, orderers[o].held)) {
                count++;
            }
        }
        return count;
    }

    private boolean isNewer(BlockList one, BlockList other) {
        int term = lastTerm(one);
        int otherTerm = lastTerm(other);
        return term > otherTerm || (term == otherTerm && one.length > other.length);
    }

    private int lastTerm(BlockList list) {
        return list.length == 0 ? 0 : blocks[list.numbers[list.length - 1]].term;
    }

    private int greatestTerm() {
        int greatest = 0;
        for (int i = 0; i < ORDERERS; i++) {
            if (orderers[i].up) {
                greatest = Math.max(greatest, orderers[i].term);
            }
        }
        return greatest;
    }

    private void dropFirstWaiting(int count) {
        System.arraycopy(waiting, count, waiting, 0, waitingCount - count);
        waitingCount -= count;
    }

    /** A log that is only ahead keeps its blocks: they go when the leader has another one there. */
    private static int bringNearer(BlockList from, BlockList to) {
        int same = from.sameAtBeginning(to);
        if (from.length <= same) {
            return 0;
        }
        to.length = same;
        to.add(from.numbers[same]);
        return 1;
    }

    /** Only a block of the leader's own term counts: an older one may still be replaced. */
    private int agreedCount(int a) {
        BlockList held = orderers[a].held;
        for (int count = held.length; count > 0; count--) {
            int number = held.numbers[count - 1];
            if (blocks[number].term == orderers[a].term && isHeldByAnother(a, number, count - 1)) {
                return count;
            }
        }
        return 0;
    }

    private boolean isHeldByAnother(int a, int number, int index) {
        for (int i = 0; i < ORDERERS; i++) {
            BlockList held = orderers[i].held;
            if (i != a && index < held.length && held.numbers[index] == number) {
                return true;
            }
        }
        return false;
    }

    private int powerOrderer(int o, boolean on) {
        if (orderers[o].up == on) {
            return NONE;
        }
        orderers[o].up = on;
        if (leader == o) {
            leader = NONE;
        }
        return 0;
    }

    private int powerPeer(Peer peer, boolean on) {
        if (peer.up == on) {
            return NONE;
        }
        peer.up = on;
        return on ? comeBack(peer) : 0;
    }

    private int comeBack(Peer peer) {
        peer.current.become(peer.saved);
        int missing = peer.stored - peer.saved.height;
        for (int i = 0; i < missing; i++) {
            applyNext(peer);
        }
        return missing;
    }

    private boolean canStoreNext(int p) {
        return isUpPeer(p) && peers[p].stored < agreed.length;
    }

    private Block agreedBlock(int b) {
        return blocks[agreed.numbers[b]];
    }

    /** Applies the block at the peer's height; answers how many of its transactions are valid. */
    private int applyNext(Peer peer) {
        int b = peer.current.height;
        Block block = agreedBlock(b);
        int valid = 0;
        for (int place = 0; place < block.size; place++) {
            int verdict = judge(peer.current, b, place);
            peer.flags[b * BLOCK_SIZE + place] = verdict;
            if (verdict == VALID) {
                int version = 1 + BLOCK_SIZE * b + place;
                transactions[block.members[place]].result.writeTo(peer.current, version);
                valid++;
            }
        }
        peer.finishBlock();
        return valid;
    }

    private int judge(WorldState state, int b, int place) {
        int t = agreedBlock(b).members[place];
        Transaction transaction = transactions[t];
        if (standsEarlier(t, b, place)) {
            return DUPLICATE;
        }
        if (!programs[transaction.program].isMetBy(transaction.endorsers)) {
            return POLICY_NOT_MET;
        }
        if (!transaction.result.readsHold(state)) {
            return VERSION_CHANGED;
        }
        return transaction.result.rangesHold(state) ? VALID : RANGE_CHANGED;
    }

    private boolean standsEarlier(int t, int b, int place) {
        for (int i = 0; i < b; i++) {
            Block block = agreedBlock(i);
            if (block.hasAmongFirst(block.size, t)) {
                return true;
            }
        }
        return agreedBlock(b).hasAmongFirst(place, t);
    }

    /** Instructions, and a pile of rules of which the top one is the policy. */
    private static final class Program {
        private final int[] ops = new int[INSTRUCTIONS];
        private final int[] operands = new int[INSTRUCTIONS];
        private int length = 0;
        /** A rule is kept as the sets that meet it: bit s stands for the set s of peers. */
        private final int[] pile = new int[RULES];
        private int pileHeight = 0;
        private int rulesMade = 0;

        private boolean addInstruction(int op, int x) {
            if (length >= INSTRUCTIONS) {
                return false;
            }
            ops[length] = op;
            operands[length] = x;
            length++;
            return true;
        }

        private boolean addLeaf(int peer) {
            if (rulesMade >= RULES) {
                return false;
            }
            int sets = 0;
            for (int set = 0; set < PEER_SETS; set++) {
                sets |= ((set >> peer) & 1) << set;
            }
            putOnTop(sets);
            return true;
        }

        private boolean joinRules(int k, int n) {
            if (rulesMade >= RULES || pileHeight < n) {
                return false;
            }
            int sets = 0;
            for (int set = 0; set < PEER_SETS; set++) {
                if (countMetAmongTop(n, set) >= k) {
                    sets |= 1 << set;
                }
            }
            pileHeight -= n;
            putOnTop(sets);
            return true;
        }

        private int countMetAmongTop(int n, int set) {
            int count = 0;
            for (int i = pileHeight - n; i < pileHeight; i++) {
                count += (pile[i] >> set) & 1;
            }
            return count;
        }

        private void putOnTop(int sets) {
            pile[pileHeight] = sets;
            pileHeight++;
            rulesMade++;
        }

        private boolean isMetBy(int set) {
            return pileHeight > 0 && ((pile[pileHeight - 1] >> set) & 1) == 1;
        }
    }

    /** The stack machine; one is used again for every endorsement. */
    private static final class Run {
        private final int[] stack = new int[STACK];
        private final Result result = new Result();
        private int depth = 0;
        private int leftOut = 0;
        private boolean failed = false;

        private boolean succeeds(Program program, int argument, WorldState state) {
            depth = 0;
            leftOut = 0;
            failed = false;
            result.clear();
            for (int i = 0; i < program.length && !failed; i++) {
                if (leftOut > 0) {
                    leftOut--;
                } else {
                    step(program.ops[i], program.operands[i], argument, state);
                }
            }
            return !failed;
        }

        private void step(int op, int x, int argument, WorldState state) {
            switch (op) {
                case PUSH:
                    push(x);
                    break;
                case ARG:
                    push(argument);
                    break;
                case ADD:
                case SUB:
                case LESS:
                    calculate(op);
                    break;
                case DUP:
                    duplicateTop();
                    break;
                case SKIP:
                    leftOut = pop() == 0 ? x : 0;
                    break;
                default:
                    touchState(op, state);
                    break;
            }
        }

        private void calculate(int op) {
            int b = pop();
            int a = pop();
            if (op == ADD) {
                push(a + b);
            } else if (op == SUB) {
                push(a - b);
            } else {
                push(a < b ? 1 : 0);
            }
        }

        private void duplicateTop() {
            int a = pop();
            push(a);
            push(a);
        }

        private void touchState(int op, WorldState state) {
            switch (op) {
                case GET:
                    readKey(state);
                    break;
                case PUT:
                    int value = pop();
                    result.write(popKey(), Result.PUT_VALUE, value);
                    break;
                case DELETE:
                    result.write(popKey(), Result.DELETED, 0);
                    break;
                case SUM:
                    addUp(state);
                    break;
                default:
                    break;
            }
        }

        private void readKey(WorldState state) {
            int key = popKey();
            result.read(Result.READ, key, state.versions[key]);
            push(state.values[key]);
        }

        private void addUp(WorldState state) {
            int high = popKey();
            int low = popKey();
            if (result.ranges >= RANGES) {
                failed = true;
                return;
            }
            int sum = 0;
            for (int key = low; key <= high; key++) {
                result.read(Result.FIRST_RANGE + result.ranges, key, state.versions[key]);
                sum += state.values[key];
            }
            result.ranges++;
            push(sum);
        }

        private void push(int x) {
            if (depth >= STACK) {
                failed = true;
                return;
            }
            stack[depth] = x;
            depth++;
        }

        private int pop() {
            if (depth <= 0) {
                failed = true;
                return 0;
            }
            depth--;
            return stack[depth];
        }

        private int popKey() {
            return pop() & (KEYS - 1);
        }
    }

    /** What a run read and wrote. Its rows stand in the order in which access() numbers them. */
    private static final class Result {
        private static final int READ = 0;
        private static final int FIRST_RANGE = 1;
        private static final int SECOND_RANGE = 2;
        private static final int WRITTEN = 3;
        private static final int VALUE = 4;
        private static final int ROWS = 5;

        private static final int NOT_WRITTEN = 0;
        private static final int PUT_VALUE = 1;
        private static final int DELETED = 2;

        private final int[] cells = new int[ROWS * KEYS];
        private int ranges = 0;

        private Result() {
            clear();
        }

        private void clear() {
            for (int i = 0; i < ROWS * KEYS; i++) {
                cells[i] = i < WRITTEN * KEYS ? NONE : 0;
            }
            ranges = 0;
        }

        private void become(Result other) {
            System.arraycopy(other.cells, 0, cells, 0, ROWS * KEYS);
            ranges = other.ranges;
        }

        /** Ranges are the same when their keys are, so that all empty ones are alike. */
        private boolean isSame(Result other) {
            for (int i = 0; i < ROWS * KEYS; i++) {
                if (cells[i] != other.cells[i]) {
                    return false;
                }
            }
            return ranges == other.ranges;
        }

        private void read(int row, int key, int version) {
            cells[row * KEYS + key] = version;
        }

        private void write(int key, int kind, int value) {
            cells[WRITTEN * KEYS + key] = kind;
            cells[VALUE * KEYS + key] = value;
        }

        private int readCount() {
            return countOtherThan(READ, NONE);
        }

        private int writtenCount() {
            return countOtherThan(WRITTEN, NOT_WRITTEN);
        }

        private int countOtherThan(int row, int empty) {
            int count = 0;
            for (int key = 0; key < KEYS; key++) {
                if (cells[row * KEYS + key] != empty) {
                    count++;
                }
            }
            return count;
        }

        private boolean readsHold(WorldState state) {
            return versionsHold(READ, state);
        }

        private boolean rangesHold(WorldState state) {
            return versionsHold(FIRST_RANGE, state) && versionsHold(SECOND_RANGE, state);
        }

        private boolean versionsHold(int row, WorldState state) {
            for (int key = 0; key < KEYS; key++) {
                int version = cells[row * KEYS + key];
                if (version != NONE && version != state.versions[key]) {
                    return false;
                }
            }
            return true;
        }

        private void writeTo(WorldState state, int version) {
            for (int key = 0; key < KEYS; key++) {
                int kind = cells[WRITTEN * KEYS + key];
                if (kind != NOT_WRITTEN) {
                    state.versions[key] = kind == DELETED ? 0 : version;
                    state.values[key] = cells[VALUE * KEYS + key];
                }
            }
        }
    }

    private static final class Transaction {
        private int program = 0;
        private int argument = 0;
        private int endorsers = 0;
        private boolean closed = false;
        private final Result result = new Result();

        private boolean isEndorsedBy(int peer) {
            return ((endorsers >> peer) & 1) == 1;
        }

        private boolean hasResult() {
            return endorsers != 0;
        }
    }

    private static final class Block {
        private final int[] members = new int[BLOCK_SIZE];
        private int size = 0;
        private int term = 0;

        private void fill(int[] from, int count, int cutterTerm) {
            System.arraycopy(from, 0, members, 0, count);
            size = count;
            term = cutterTerm;
        }

        private int transactionAt(int place) {
            return within(place, size) ? members[place] : NONE;
        }

        private boolean hasAmongFirst(int count, int t) {
            for (int place = 0; place < count; place++) {
                if (members[place] == t) {
                    return true;
                }
            }
            return false;
        }
    }

    /** A list of blocks by the numbers under which they were cut: a log, or the chain. */
    private static final class BlockList {
        private final int[] numbers = new int[LOG_BLOCKS];
        private int length = 0;

        private void add(int number) {
            if (length < LOG_BLOCKS) {
                numbers[length] = number;
                length++;
            }
        }

        private int sameAtBeginning(BlockList other) {
            int shorter = Math.min(length, other.length);
            for (int i = 0; i < shorter; i++) {
                if (numbers[i] != other.numbers[i]) {
                    return i;
                }
            }
            return shorter;
        }

        private void becomeFirst(BlockList other, int count) {
            System.arraycopy(other.numbers, 0, numbers, 0, count);
            length = count;
        }
    }

    private static final class Orderer {
        private boolean up = true;
        private int term = 0;
        private final BlockList held = new BlockList();
    }

    private static final class WorldState {
        private final int[] versions = new int[KEYS];
        private final int[] values = new int[KEYS];
        private int height = 0;

        private void become(WorldState other) {
            System.arraycopy(other.versions, 0, versions, 0, KEYS);
            System.arraycopy(other.values, 0, values, 0, KEYS);
            height = other.height;
        }
    }

    private static final class Peer {
        private boolean up = true;
        private int stored = 0;
        private final WorldState current = new WorldState();
        private final WorldState saved = new WorldState();
        private final int[] flags = new int[LOG_BLOCKS * BLOCK_SIZE];

        private void finishBlock() {
            current.height++;
            if (current.height % SAVE_EVERY == 0) {
                saved.become(current);
            }
        }
    }
}
