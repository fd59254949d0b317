import java.util.ArrayList;
import java.util.List;
import java.util.Random;

/** Calls as they come in runs, the same for the same seed: most of them fit the ledger, some do not. */
final class RandomCalls {
    /** How often each call is made, in four kinds of runs: mixed, steady, with many breaks, and with many cuts. */
    private static final int[][] WEIGHTS = {
        {0, 0, 4, 9, 7, 4, 7, 12, 6, 12, 1, 3, 6, 6, 6, 3, 4, 6},
        {0, 0, 8, 25, 16, 4, 8, 20, 4, 24, 1, 2, 6, 6, 12, 2, 2, 2},
        {1, 1, 4, 9, 8, 12, 8, 14, 14, 10, 6, 1, 2, 6, 6, 3, 4, 6},
        {0, 0, 1, 3, 20, 5, 24, 16, 4, 12, 1, 1, 1, 3, 3, 2, 3, 6},
    };

    private final Random random;
    private final int[] weights;
    private final List<Call> setup;
    private int made = 0;

    RandomCalls(int seed) {
        random = new Random(seed);
        weights = WEIGHTS[seed % WEIGHTS.length];
        setup = setup(random);
    }

    /** The next call for a ledger that has had those before; the model of it tells which numbers fit. */
    Call next(ModelLedger model) {
        made++;
        if (made <= setup.size()) {
            return setup.get(made - 1);
        }
        int which = choose(random, weights);
        return new Call(which, arguments(random, which, model));
    }

    /** Calls of code and policy: programs made of pieces that mostly run well, and of anything else. */
    private static List<Call> setup(Random random) {
        List<Call> calls = new ArrayList<>();
        for (int program = 0; program < 4; program++) {
            boolean isWild = random.nextInt(5) == 0;
            for (int i = 1 + random.nextInt(2); i > 0; i--) {
                int[] piece = piece(random);
                for (int at = 0; at < piece.length && !isWild; at += 2) {
                    calls.add(new Call("code", program, piece[at], piece[at + 1]));
                }
            }
            for (int i = isWild ? random.nextInt(16) : random.nextInt(6) / 5; i > 0; i--) {
                int[] any = instruction(random);
                calls.add(new Call("code", isWild ? program : any[0], any[1], any[2]));
            }
            for (int i = random.nextInt(random.nextBoolean() ? 2 : 14); i > 0; i--) {
                int[] any = rule(random);
                calls.add(new Call("policy", isWild ? any[0] : program, any[1], any[2]));
            }
            if (random.nextInt(4) > 0) {
                calls.add(new Call("policy", program, random.nextInt(2), 0));
                calls.add(new Call("policy", program, 1 + random.nextInt(2), 2));
            }
        }
        return calls;
    }

    private static int[] piece(Random random) {
        int key = random.nextInt(4);
        int other = random.nextInt(4);
        int[][] pieces = {
            {0, key, 1, 0, 8, 0},
            {0, key, 0, other, 7, 0, 1, 0, 2, 0, 8, 0},
            {0, 1, 0, 1, 7, 0, 1, 0, 3, 0, 8, 0},
            {0, key, 0, other, 0, other + 1, 10, 0, 8, 0},
            {0, key, 9, 0},
            {1, 0, 7, 0, 6, 1 + random.nextInt(3)},
            {0, key, 1, 0, 10, 0},
            {1, 0, 5, 0, 8, 0},
        };
        return pieces[random.nextInt(pieces.length)];
    }

    private static int[] rule(Random random) {
        int n = random.nextInt(3) == 0 ? index(random, 6) : random.nextBoolean() ? 0 : 2;
        return new int[] {index(random, 4), random.nextBoolean() ? index(random, 5) : 1, n};
    }

    private static int choose(Random random, int[] weights) {
        int sum = 0;
        for (int weight : weights) {
            sum += weight;
        }
        int left = random.nextInt(sum);
        int which = 0;
        while (left >= weights[which]) {
            left -= weights[which];
            which++;
        }
        return which;
    }

    /** An index below a size, and now and then one beside it or far away. */
    private static int index(Random random, int size) {
        int kind = random.nextInt(60);
        if (kind == 0) {
            return random.nextInt();
        }
        if (kind == 1) {
            return random.nextBoolean() ? -1 : size;
        }
        return size <= 0 ? 0 : random.nextInt(size);
    }

    /** A late one of so many, mostly. */
    private static int late(Random random, int size) {
        return random.nextInt(4) == 0 ? index(random, size) : index(random, Math.min(size, 3)) + Math.max(0, size - 3);
    }

    private static int[] arguments(Random random, int which, ModelLedger model) {
        int leader = random.nextInt(10) == 0 ? index(random, 3) : model.about(6);
        int count = model.about(9);
        switch (which) {
            case 0:
                return instruction(random);
            case 1:
                return rule(random);
            case 2:
                return new int[] {index(random, 4), random.nextInt(5) == 0 ? random.nextInt() : random.nextInt(20)};
            case 3:
                return new int[] {late(random, count), random.nextBoolean() ? index(random, 2) : index(random, 4)};
            case 4:
                return new int[] {late(random, count)};
            case 6:
                return new int[] {leader};
            case 7:
                return new int[] {leader, index(random, 3)};
            case 8:
                return new int[] {index(random, 7), random.nextInt(5) == 0 ? 0 : 1};
            case 11:
                return new int[] {index(random, count), index(random, 7)};
            case 12:
                return new int[] {late(random, count), index(random, 16), index(random, 5)};
            case 13:
                return new int[] {index(random, 4), index(random, 16), index(random, 2)};
            case 14:
                int peer = index(random, 4);
                return new int[] {peer, late(random, peer >= 0 ? model.about(10 + peer) : 0), index(random, 3)};
            case 15:
                return new int[] {index(random, model.about(7)), random.nextInt(6) - 1};
            case 16:
                int length = model.about(3 + random.nextInt(3));
                return new int[] {index(random, 3), index(random, length), random.nextInt(6) - 1};
            case 17:
                return new int[] {index(random, 19)};
            default:
                return new int[] {index(random, which == 5 ? 3 : 4)};
        }
    }

    private static int[] instruction(Random random) {
        int[] often = {0, 0, 0, 1, 1, 0, 5, 7, 8, 8, 10};
        int op = random.nextInt(3) == 0 ? index(random, 11) : often[random.nextInt(often.length)];
        int x = random.nextInt(12) == 0 ? random.nextInt() : random.nextInt(5);
        return new int[] {index(random, 4), op, x};
    }
}
