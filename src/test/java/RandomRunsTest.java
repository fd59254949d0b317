import java.lang.reflect.Method;
import java.util.ArrayList;
import java.util.Arrays;
import java.util.List;
import java.util.Random;

/** Runs of 512 calls, the same every time, whose answers the program and the model must agree on. */
final class RandomRunsTest {
    private static final int RUNS = 6000;
    private static final int CALLS = 512;
    private static final String[] NAMES = {
        "code", "policy", "propose", "endorse", "submit", "elect", "cut", "copy", "power", "deliver", "tear",
        "transaction", "access", "state", "flag", "chain", "log", "about",
    };
    /** How often each call is made, in four kinds of runs: mixed, steady, with many breaks, and with many cuts. */
    private static final int[][] WEIGHTS = {
        {0, 0, 4, 9, 7, 4, 7, 12, 6, 12, 1, 3, 6, 6, 6, 3, 4, 6},
        {0, 0, 8, 25, 16, 4, 8, 20, 4, 24, 1, 2, 6, 6, 12, 2, 2, 2},
        {1, 1, 4, 9, 8, 12, 8, 14, 14, 10, 6, 1, 2, 6, 6, 3, 4, 6},
        {0, 0, 1, 3, 20, 5, 24, 16, 4, 12, 1, 1, 1, 3, 3, 2, 3, 6},
    };
    private static final Method[] OF_LEDGER = methods(EndorsedLedger.class);
    private static final Method[] OF_MODEL = methods(ModelLedger.class);
    private static final Check check = new Check();
    private static final int[] refused = new int[NAMES.length];
    private static final int[] taken = new int[NAMES.length];
    private static final int[] flagsSeen = new int[5];

    public static void main(String[] args) {
        for (int seed = 0; seed < RUNS && check.isClean(); seed++) {
            oneRun(seed);
        }
        everyCallWasTakenAndRefused();
        check.end();
    }

    private static void oneRun(int seed) {
        Random random = new Random(seed);
        EndorsedLedger ledger = new EndorsedLedger();
        ModelLedger model = new ModelLedger();
        int[] weights = WEIGHTS[seed % WEIGHTS.length];
        List<int[]> setup = setup(random);
        for (int i = 0; i < CALLS && check.isClean(); i++) {
            boolean isSetup = i < setup.size();
            int which = isSetup ? setup.get(i)[0] : choose(random, weights);
            int[] args = isSetup ? Arrays.copyOfRange(setup.get(i), 1, 4) : arguments(random, which, model);
            int want = answer(model, OF_MODEL[which], args);
            int got = answer(ledger, OF_LEDGER[which], args);
            String text = NAMES[which] + "(" + args[0] + ", " + args[1] + ", " + args[2] + ")";
            check.due("run " + seed + ", call " + i + ": " + text, got, want);
            count(which, want);
        }
    }

    /** Calls of code and policy: programs made of pieces that mostly run well, and of anything else. */
    private static List<int[]> setup(Random random) {
        List<int[]> calls = new ArrayList<>();
        for (int program = 0; program < 4; program++) {
            boolean isWild = random.nextInt(5) == 0;
            for (int i = 1 + random.nextInt(2); i > 0; i--) {
                int[] piece = piece(random);
                for (int at = 0; at < piece.length && !isWild; at += 2) {
                    calls.add(new int[] {0, program, piece[at], piece[at + 1]});
                }
            }
            for (int i = isWild ? random.nextInt(16) : random.nextInt(6) / 5; i > 0; i--) {
                int[] any = instruction(random);
                calls.add(new int[] {0, isWild ? program : any[0], any[1], any[2]});
            }
            for (int i = random.nextInt(random.nextBoolean() ? 2 : 14); i > 0; i--) {
                int[] any = rule(random);
                calls.add(new int[] {1, isWild ? any[0] : program, any[1], any[2]});
            }
            if (random.nextInt(4) > 0) {
                calls.add(new int[] {1, program, random.nextInt(2), 0});
                calls.add(new int[] {1, program, 1 + random.nextInt(2), 2});
            }
        }
        return calls;
    }

    private static int[] piece(Random random) {
        int key = random.nextInt(4);
        int other = random.nextInt(4);
        int[][] pieces = {
            {0, key, 1, 0, 8, 0},
            {0, key, 0, other, 7, 0, 1, 0, 2, 0, 8, 0},
            {0, 1, 0, 1, 7, 0, 1, 0, 3, 0, 8, 0},
            {0, key, 0, other, 0, other + 1, 10, 0, 8, 0},
            {0, key, 9, 0},
            {1, 0, 7, 0, 6, 1 + random.nextInt(3)},
            {0, key, 1, 0, 10, 0},
            {1, 0, 5, 0, 8, 0},
        };
        return pieces[random.nextInt(pieces.length)];
    }

    private static int[] rule(Random random) {
        int n = random.nextInt(3) == 0 ? index(random, 6) : random.nextBoolean() ? 0 : 2;
        return new int[] {index(random, 4), random.nextBoolean() ? index(random, 5) : 1, n};
    }

    private static void count(int which, int answer) {
        boolean isBoolean = which <= 1 || which == 4 || which == 10;
        if (answer == (isBoolean ? 0 : -1)) {
            refused[which]++;
        } else {
            taken[which]++;
        }
        if (which == 14 && answer >= 0) {
            flagsSeen[answer]++;
        }
    }

    /** Else the runs would say less than they seem to. */
    private static void everyCallWasTakenAndRefused() {
        for (int which = 0; which < NAMES.length; which++) {
            check.yes(NAMES[which] + " was taken", taken[which] > 100);
            check.yes(NAMES[which] + " was refused", refused[which] > 100);
        }
        for (int flag = 0; flag < 5; flag++) {
            check.yes("flag " + flag + " was seen", flagsSeen[flag] > 100);
        }
    }

    private static int choose(Random random, int[] weights) {
        int sum = 0;
        for (int weight : weights) {
            sum += weight;
        }
        int left = random.nextInt(sum);
        int which = 0;
        while (left >= weights[which]) {
            left -= weights[which];
            which++;
        }
        return which;
    }

    /** An index below a size, and now and then one beside it or far away. */
    private static int index(Random random, int size) {
        int kind = random.nextInt(60);
        if (kind == 0) {
            return random.nextInt();
        }
        if (kind == 1) {
            return random.nextBoolean() ? -1 : size;
        }
        return size <= 0 ? 0 : random.nextInt(size);
    }

    /** A late one of so many, mostly. */
    private static int late(Random random, int size) {
        return random.nextInt(4) == 0 ? index(random, size) : index(random, Math.min(size, 3)) + Math.max(0, size - 3);
    }

    private static int[] arguments(Random random, int which, ModelLedger model) {
        int leader = random.nextInt(10) == 0 ? index(random, 3) : model.about(6);
        int count = model.about(9);
        switch (which) {
            case 0:
                return instruction(random);
            case 1:
                return rule(random);
            case 2:
                return new int[] {index(random, 4), random.nextInt(5) == 0 ? random.nextInt() : random.nextInt(20), 0};
            case 3:
                return new int[] {late(random, count), random.nextBoolean() ? index(random, 2) : index(random, 4), 0};
            case 4:
                return new int[] {late(random, count), 0, 0};
            case 6:
                return new int[] {leader, 0, 0};
            case 7:
                return new int[] {leader, index(random, 3), 0};
            case 8:
                return new int[] {index(random, 7), random.nextInt(5) == 0 ? 0 : 1, 0};
            case 11:
                return new int[] {index(random, count), index(random, 7), 0};
            case 12:
                return new int[] {late(random, count), index(random, 16), index(random, 5)};
            case 13:
                return new int[] {index(random, 4), index(random, 16), index(random, 2)};
            case 14:
                int peer = index(random, 4);
                return new int[] {peer, late(random, peer >= 0 ? model.about(10 + peer) : 0), index(random, 3)};
            case 15:
                return new int[] {index(random, model.about(7)), random.nextInt(6) - 1, 0};
            case 16:
                return new int[] {index(random, 3), index(random, model.about(3 + random.nextInt(3))), random.nextInt(6) - 1};
            case 17:
                return new int[] {index(random, 19), 0, 0};
            default:
                return new int[] {index(random, which == 5 ? 3 : 4), 0, 0};
        }
    }

    private static int[] instruction(Random random) {
        int[] often = {0, 0, 0, 1, 1, 0, 5, 7, 8, 8, 10};
        int op = random.nextInt(3) == 0 ? index(random, 11) : often[random.nextInt(often.length)];
        int x = random.nextInt(12) == 0 ? random.nextInt() : random.nextInt(5);
        return new int[] {index(random, 4), op, x};
    }

    /** Looked up by name, so that both sides are called by the same lines. */
    private static Method[] methods(Class<?> type) {
        Method[] methods = new Method[NAMES.length];
        for (Method method : type.getDeclaredMethods()) {
            int which = Arrays.asList(NAMES).indexOf(method.getName());
            if (which >= 0) {
                methods[which] = method;
            }
        }
        return methods;
    }

    private static int answer(Object target, Method method, int[] args) {
        Class<?>[] types = method.getParameterTypes();
        Object[] values = new Object[types.length];
        for (int i = 0; i < types.length; i++) {
            values[i] = types[i] == int.class ? (Object) args[i] : (Object) (args[i] == 1);
        }
        try {
            Object answer = method.invoke(target, values);
            return answer instanceof Boolean yes ? (yes ? 1 : 0) : (Integer) answer;
        } catch (ReflectiveOperationException wrong) {
            throw new IllegalStateException(method + " threw with " + Arrays.toString(args), wrong);
        }
    }
}
