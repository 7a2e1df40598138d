/** SEQUENCES with the largest FACTORS and FIRST TERMS that can be made, against Plain. */
public final class LargeTest {
    private static boolean isRight = true;

    public static void main(String[] args) {
        geometric();
        conveyed();
        fourQuadratics();
        thinned();
        blown();
        round();
        if (!isRight) System.exit(1);
        System.out.println("LargeTest: all answers are as due");
    }

    private static void made(Pair pair, Object want, String name, Object... args) {
        if (!isRight) return;
        isRight = pair.call(name, args);
        if (!isRight || want == null || want.equals(pair.answer)) return;
        isRight = false;
        System.out.println(name + " answered " + pair.answer + ", the test is made for " + want);
    }

    private static void tell(Pair pair, int name, int order, int... numbers) {
        made(pair, null, "sweep");
        for (int n : numbers) made(pair, null, "lay", 1, n, 0, 0, 0, 0);
        made(pair, null, "tell", name, order);
    }

    /** Gives the name 999999^n. */
    private static void tellGeometric(Pair pair, int name) {
        int[] factors = {99, 91, 37, 3};
        tell(pair, name, 1, 1, 1);
        for (int f : factors) {
            tell(pair, 25, 1, f, 1);
            made(pair, 1, "combine", name, name, 25, 2);
        }
    }

    /** Gives the name 999999999 everywhere. */
    private static void tellConstant(Pair pair, int name) {
        tell(pair, name, 1, 1, 78);
        int[] times = {47, 91, 37};
        for (int f : times) {
            if (f == 37) {
                tell(pair, 25, 1, 1, 61);
                made(pair, 1, "combine", name, name, 25, 0);
            }
            tell(pair, 25, 1, 1, f);
            made(pair, 1, "combine", name, name, 25, 2);
        }
        made(pair, 1, "derive", name, name, 4, 9);
        made(pair, 1, "derive", name, name, 4, 9);
    }

    private static void geometric() {
        Pair pair = new Pair();
        tellGeometric(pair, 0);
        tellConstant(pair, 1);
        made(pair, "1 ; 999999999", "text", 1);
        made(pair, 1, "combine", 2, 0, 1, 2);
        made(pair, "999999 ; 999999999", "text", 2);
        made(pair, 1, "derive", 3, 2, 4, -1);
        tell(pair, 4, 1, -1, 1);
        made(pair, 1, "combine", 5, 0, 4, 2);
        made(pair, 2, "combine", 6, 0, 4, 0);
        made(pair, "999998 999999 ; 2 999998", "text", 6);
        ask(pair, 0, 1, 2, 3, 5, 6);
    }

    /** With x^7 = 1, so that eight FACTORS are told and the FIRST TERMS come near nine digits. */
    private static void conveyed() {
        Pair pair = new Pair();
        tellGeometric(pair, 0);
        made(pair, null, "sweep");
        for (int i = 0; i < 5; i++) made(pair, null, "lay", 1, 0, 0, 0, 0, 0);
        made(pair, null, "lay", 5, 0, 99, 1, 0, 0);
        made(pair, null, "lay", 5, 0, 0, 0, 0, -1);
        made(pair, 7, "read", 1, 7);
        made(pair, 8, "combine", 2, 0, 1, 3);
        made(pair, "999999 0 0 0 0 0 1 -999999 ; 0 0 0 0 0 0 99 98999901", "text", 2);
        made(pair, 8, "derive", 3, 2, 4, -9);
        made(pair, 8, "derive", 4, 2, 4, 9);
        made(pair, "999999 0 0 0 0 0 1 -999999 ; 0 0 0 0 0 0 891 890999109", "text", 4);
        ask(pair, 1, 2, 3, 4);
    }

    private static void fourQuadratics() {
        Pair pair = new Pair();
        made(pair, null, "two", 0, 1, 31, 99, -99);
        made(pair, null, "two", 1, 2, 31, 99, 99);
        made(pair, null, "two", 2, -3, 31, -98, 97);
        made(pair, null, "two", 3, 4, 31, 99, 99);
        made(pair, 4, "combine", 4, 0, 1, 0);
        made(pair, 4, "combine", 5, 2, 3, 0);
        made(pair, 8, "combine", 6, 4, 5, 0);
        made(pair, 8, "combine", 7, 4, 5, 1);
        made(pair, null, "combine", 8, 4, 0, 2);
        made(pair, null, "combine", 9, 4, 5, 3);
        made(pair, 8, "derive", 10, 6, 4, -6);
        ask(pair, 4, 6, 7, 10);
    }

    private static void thinned() {
        Pair pair = new Pair();
        made(pair, null, "two", 0, 97, 99, 99, -99);
        made(pair, 2, "derive", 1, 0, 2, 2);
        made(pair, 2, "derive", 2, 0, 2, 3);
        made(pair, null, "derive", 3, 0, 2, 4);
        made(pair, 3, "combine", 4, 0, 0, 2);
        made(pair, null, "derive", 5, 4, 2, 2);
        tell(pair, 6, 4, 50, -50, 50, -50, 0, 0, 0, 7);
        tell(pair, 7, 4, 40, 40, 40, 40, 1, 2, 3, 4);
        made(pair, 5, "derive", 8, 7, 0, 0);
        made(pair, 8, "derive", 9, 6, 6, 9);
        made(pair, 8, "combine", 10, 6, 7, 3);
        made(pair, null, "combine", 11, 6, 7, 4);
        ask(pair, 1, 2, 6, 9, 10);
    }

    private static void blown() {
        Pair pair = new Pair();
        tellGeometric(pair, 0);
        made(pair, 8, "derive", 1, 0, 5, 8);
        made(pair, "0 0 0 0 0 0 0 999999 ; 1 0 0 0 0 0 0 0", "text", 1);
        made(pair, 8, "derive", 2, 1, 4, -9);
        made(pair, 8, "derive", 3, 1, 3, 7);
        tell(pair, 4, 1, -3, 5);
        made(pair, 8, "derive", 5, 4, 5, 8);
        ask(pair, 1, 2, 3, 5);
    }

    /** Numbers of nine 0 at their end, where a limb is just full. */
    private static void round() {
        Pair pair = new Pair();
        for (int sign = -1; sign <= 1; sign += 2) {
            tell(pair, 0, 1, 10, 1);
            made(pair, 1, "derive", 0, 0, 2, 5);
            tell(pair, 1, 1, -10, 1);
            tell(pair, 2, 1, 1, 10);
            tell(pair, 25, 1, 1, 50 * sign);
            made(pair, 1, "combine", 2, 2, 25, 2);
            tell(pair, 25, 1, 1, 10);
            made(pair, 1, "combine", 2, 2, 25, 2);
            // 5000 * 100000^n, less 10000 at 0
            made(pair, 1, "combine", 3, 0, 2, 2);
            made(pair, null, "sweep");
            made(pair, null, "lay", 3, 1, 1, 0, 0, 0);
            made(pair, 1, "read", 4, 1);
            made(pair, 1, "combine", 5, 4, 2, 2);
            made(pair, 2, "combine", 6, 3, 5, 1);
            made(pair, 2, "combine", 6, 6, 5, 1);
            made(pair, "100000 0 ; " + -5000 * sign + " " + 500000000 * sign, "text", 6);
            made(pair, -5000 * sign + " " + 1000000000 * sign + " / 1 -100000 0", "fraction", 6);
            ask(pair, 0, 1, 3, 6);
        }
    }

    private static void ask(Pair pair, int... names) {
        for (int name : names) {
            askFar(pair, name);
            for (int other : names) {
                for (int kind = 0; kind <= 5; kind++) made(pair, null, "fails", kind, name, other, names[0]);
                made(pair, null, "fails", 2, names[0], name, other);
                made(pair, null, "combine", 24, name, other, 4);
                made(pair, null, "combine", 24, name, other, 3);
            }
        }
        made(pair, true, "isSound");
        made(pair, null, "digest");
    }

    private static void askFar(Pair pair, int name) {
        for (int n = -30; n <= 100; n += n < -24 || n > 94 ? 1 : 3) made(pair, null, "term", name, n);
        for (int what = 0; what <= 4; what++) made(pair, null, "ofSequence", name, what);
        made(pair, null, "text", name);
        made(pair, null, "fraction", name);
        made(pair, null, "sum", name, 9, 12);
        made(pair, null, "sum", name, 8, 12);
        for (int m : new int[] {1, 2, 7, 97, 998, 999}) {
            for (int n : new int[] {-1000, -7, -1, 0, 7, 8, 1000, 100000}) made(pair, null, "termMod", name, n, m);
            made(pair, null, "divided", name, m);
        }
        for (int m = 1; m <= 20; m += 3) {
            made(pair, null, "period", name, m, true);
            made(pair, null, "period", name, m, false);
        }
    }
}
