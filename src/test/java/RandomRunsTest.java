import java.util.Random;

/** Runs of random calls, always the same ones: each must answer what Plain answers. */
public final class RandomRunsTest {
    private static final String[] CHANGING = {
        "two", "tell", "adopt", "combine", "combine", "combine", "derive", "derive", "derive", "machine", "read",
        "read", "shorten", "drop", "wind", "undo", "lay", "lay", "lay", "sweep"};
    private static final String[] ASKING = {
        "ofSequence", "factor", "text", "term", "termMod", "sum", "fraction", "period", "divided", "enough", "fails",
        "found", "foundFactor", "foundBy", "difference", "degree", "value", "wound", "woundSum", "powers", "books",
        "desk", "names", "has", "knock", "isSound"};

    private final Random random;
    private final int flavor;
    private final Pair pair = new Pair();

    private RandomRunsTest(long seed) {
        random = new Random(seed);
        flavor = (int) (seed % 6);
    }

    public static void main(String[] args) {
        long from = args.length > 0 ? Long.parseLong(args[0]) : 0;
        int runs = args.length > 1 ? Integer.parseInt(args[1]) : 240;
        int calls = args.length > 2 ? Integer.parseInt(args[2]) : 300;
        int wrong = 0;
        for (long seed = from; seed < from + runs && wrong < 5; seed++) {
            if (!new RandomRunsTest(seed).run(calls)) {
                wrong++;
                System.out.println("seed " + seed + " went wrong");
            }
        }
        if (wrong > 0) System.exit(1);
        System.out.println("RandomRunsTest: " + runs + " runs are as due");
    }

    private boolean run(int calls) {
        for (int i = 0; i < calls; i++) {
            boolean isRight;
            int kind = random.nextInt(20);
            if (kind == 0 && i % 8 == 0) isRight = call("digest");
            else if (kind < 9) isRight = call(CHANGING[random.nextInt(CHANGING.length)]);
            else isRight = call(ASKING[random.nextInt(ASKING.length)]);
            if (isRight && random.nextInt(40) == 0) isRight = layRecurrence();
            if (!isRight) return false;
        }
        return call("digest");
    }

    private boolean call(String name, Object... given) {
        return pair.call(name, given.length > 0 ? given : arguments(name, Pair.countOf(name)));
    }

    /** Lays as many terms of a small recurrence as there is room for, so that something is found. */
    private boolean layRecurrence() {
        if (!call("sweep")) return false;
        int order = 1 + random.nextInt(5);
        int[] c = new int[order];
        for (int i = 0; i < order; i++) c[i] = random.nextInt(5) - 2;
        int[] t = new int[16];
        int many = 4 + random.nextInt(13);
        for (int n = 0; n < many; n++) {
            if (n < order) t[n] = random.nextInt(7) - 3;
            else for (int i = 0; i < order; i++) t[n] += c[i] * t[n - 1 - i];
            if (Math.abs(t[n]) > 99) return true;
            if (!call("lay", 1, t[n], 0, 0, 0, 0)) return false;
        }
        return call("adopt", random.nextInt(4));
    }

    private Object[] arguments(String name, int count) {
        Object[] a = new Object[count];
        for (int i = 0; i < count; i++) a[i] = argument(name, i);
        return a;
    }

    private Object argument(String name, int i) {
        if (name.equals("period") && i == 2) return random.nextBoolean();
        int odd = random.nextInt(150);
        if (odd == 0) return random.nextInt();
        if (odd == 1) return random.nextBoolean() ? Integer.MAX_VALUE : Integer.MIN_VALUE;
        if (odd == 2) return random.nextInt(260) - 130;
        int[] range = range(name, i);
        if (odd == 3) return range[0] - 1;
        if (odd == 4) return range[1] + 1;
        if (odd == 5) return range[0];
        if (odd == 6) return range[1];
        return range[0] + random.nextInt(range[1] - range[0] + 1);
    }

    private int[] range(String name, int i) {
        switch (name + " " + i) {
            case "lay 0": return new int[] {1, 5};
            case "tell 1": return new int[] {0, 4};
            case "combine 3": return new int[] {0, 4};
            case "derive 2": return new int[] {0, 6};
            case "derive 3": return random.nextInt(3) == 0 ? new int[] {0, 20} : random.nextInt(2) == 0 ? new int[] {-9, 9} : new int[] {0, 2};
            case "machine 1": return new int[] {1, 4};
            case "machine 2": return new int[] {1, 4};
            case "machine 3": return new int[] {0, random.nextBoolean() ? 15 : 3};
            case "read 1": return new int[] {0, random.nextInt(4) == 0 ? 16 : 6};
            case "ofSequence 1": return new int[] {0, 4};
            case "factor 1": return new int[] {1, 4};
            case "term 1": return random.nextBoolean() ? new int[] {-30, 100} : new int[] {-30, -1};
            case "termMod 1": return random.nextInt(4) == 0 ? new int[] {-1000, 100000} : new int[] {-1000, 3000};
            case "termMod 2": return new int[] {1, 999};
            case "sum 1": return new int[] {1, 9};
            case "sum 2": return new int[] {0, 12};
            case "period 1": return new int[] {1, 20};
            case "divided 1": return random.nextBoolean() ? new int[] {1, 999} : new int[] {1, 40};
            case "enough 0": case "fails 0": return new int[] {0, 5};
            case "desk 0": return new int[] {0, 15};
            case "found 0": return new int[] {0, 2};
            case "foundFactor 0": return new int[] {1, 8};
            case "foundBy 0": return random.nextBoolean() ? new int[] {2, 7} : new int[] {2, 97};
            case "foundBy 1": return new int[] {0, 8};
            case "difference 0": case "difference 1": return new int[] {0, 10};
            case "value 0": return new int[] {-50, 100};
            case "wound 0": return new int[] {0, 40};
            case "woundSum 0": return new int[] {0, 41};
            case "powers 0": return new int[] {0, 9};
            case "powers 1": return new int[] {0, 999};
            case "books 0": return new int[] {0, 4};
            default: return name.equals("lay") || name.equals("two") && i > 0 ? laid() : new int[] {0, 3};
        }
    }

    private int[] laid() {
        switch (flavor) {
            case 0: return new int[] {-2, 2};
            case 1: return new int[] {-99, 99};
            case 2: return random.nextInt(3) == 0 ? new int[] {-1, 1} : new int[] {0, 0};
            case 3: return random.nextBoolean() ? new int[] {-99, -98} : new int[] {98, 99};
            case 4: return random.nextBoolean() ? new int[] {0, 3} : new int[] {-9, 9};
            default: return random.nextInt(3) == 0 ? new int[] {-99, 99} : new int[] {-1, 1};
        }
    }
}
