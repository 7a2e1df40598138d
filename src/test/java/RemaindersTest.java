/** The sentences of section 4 of the Description (remainders, identities) that name a boundary case. */
public final class RemaindersTest {
    public static void main(String[] args) {
        rows();
        rowsTo1000();
        rowsOfTheOrder0();
        backBy();
        jammed();
        backByOne();
        enough();
        failsAtTheLast();
        failsAtTheFirst();
        asTheyAre();
        Checks.end("RemaindersTest");
    }

    private static void turns(Backwardterms b, int name, int m, int tail, int period) {
        Checks.due("TAIL by " + m, b.period(name, m, true), tail);
        Checks.due("PERIOD by " + m, b.period(name, m, false), period);
    }

    private static void rows() {
        Checks.sentence("it is that ROW with the smallest number that is like one ahead of it: TAIL is the number of this one");
        Backwardterms b = Checks.busy();
        turns(b, 0, 2, 0, 3);
        turns(b, 0, 10, 0, 60);
        turns(b, 0, 20, 0, 60);
        turns(b, 2, 20, 2, 4);
        turns(b, 2, 16, 4, 1);
        turns(b, 2, 3, 0, 2);
        turns(b, 8, 20, 0, 8);
        turns(b, 25, 20, 1, 1);
        Checks.sentence("ROW n: the REMAINDERS of a(n) to a(n + k - 1), k its ORDER (as it is)");
        // 0 0 1 0 0 1: single numbers are alike sooner than rows of three
        Checks.tell(b, 20, 3, 0, 0, 1, 0, 0, 1);
        turns(b, 20, 2, 0, 3);
        Checks.tell(b, 20, 4, 1, 0, 0, 0, 5, 4, 2, 0);
        turns(b, 20, 20, 3, 1);
        b.shorten(20);
        turns(b, 20, 20, 3, 1);
        // c(1) = 2 of one more ORDER than the SHORTEST
        b.two(20, 2, 0, 1, 2);
        turns(b, 20, 4, 2, 1);
        b.two(20, 3, -2, 1, 2);
        turns(b, 20, 4, 2, 1);
        Checks.sentence("REMAINDERS by 1: all ROWS are alike");
        for (int name : new int[] {0, 1, 2, 3, 4, 5, 6, 7, 8, 25}) turns(b, name, 1, 0, 1);
    }

    private static void rowsTo1000() {
        Backwardterms b = new Backwardterms();
        Checks.sentence("of all ROWS 0, 1, 2, ... to 1000: ROW 1000 is the first that is like one ahead");
        Checks.put(b, -1, -1, 2, 1, 1, 4, 9, 3, 0, -4, -10, 0, -10);
        Checks.due("read", b.read(0, 4), 8);
        turns(b, 0, 20, 6, 994);
        Checks.sentence("of all ROWS 0, 1, 2, ... to 1000: it would be ROW 1001 (NONE for both)");
        Checks.put(b, 0, 0, -1, 2, 1, -1, 1, 3, -6, -5, 0, -6, 0, -10);
        Checks.due("read", b.read(1, 6), 7);
        turns(b, 1, 20, -1, -1);
        Checks.sentence("NONE for both, if there is none such");
        Checks.tell(b, 2, 4, 11, 10, 6, 4, 11, 5, 1, 0);
        turns(b, 2, 13, -1, -1);
        // asked again after others, it is as before
        turns(b, 0, 20, 6, 994);
        turns(b, 2, 13, -1, -1);
        Checks.tell(b, 2, 4, 8, 4, 0, 1, 9, 2, 4, 8);
        turns(b, 2, 11, 0, 976);
    }

    private static void rowsOfTheOrder0() {
        Checks.sentence("(With the ORDER 0 all ROWS are alike: TAIL 0, PERIOD 1.)");
        Backwardterms b = Checks.busy();
        for (int m = 1; m <= 20; m++) turns(b, 3, m, 0, 1);
    }

    // ---- behind 0

    private static void backBy() {
        Checks.sentence("BACK BY m: as in section 1, but MOD m, and instead of the division a product with that number");
        Backwardterms b = Checks.busy();
        for (int m = 1; m <= 999; m += 2) {
            long half = m == 1 ? 0 : (m + 1) / 2;
            long want = 1 % m;
            for (int i = 0; i < 7; i++) want = want * half % m;
            Checks.due("1/2^7 by " + m, b.termMod(2, -7, m), (int) want);
        }
        Checks.due("a(-1000) by 999", b.termMod(0, -1000, 999), 966);
        Checks.due("a(-1) by 999", b.termMod(0, -1, 999), 1);
        Checks.due("a(-2) by 999", b.termMod(0, -2, 999), 998);
        Checks.due("a(-1000) of the ORDER 8", b.termMod(8, -1000, 999), 1);
        // c(2) is below 0, and above m
        b.two(20, 5, -3, 2, 7);
        Checks.due("a(-1), (7 - 10) / -3", b.term(20, -1), "1");
        Checks.due("a(-1) by 5", b.termMod(20, -1, 5), 1);
        Checks.due("a(-2), (2 - 5) / -3", b.termMod(20, -2, 2), 1);
        b.two(20, 0, 99, 1, 1);
        Checks.due("a(-1) by 98", b.termMod(20, -1, 98), 1);
        Checks.due("a(-1) by 97: half of 1", b.termMod(20, -1, 97), 49);
        Checks.due("a(-1) by 2", b.termMod(20, -1, 2), 1);
    }

    private static void jammed() {
        Checks.sentence("(JAMMED, if there is none), at each m that has a divisor in common with c(k)");
        Backwardterms b = new Backwardterms();
        b.two(0, 7, 6, 1, 1);
        for (int m = 1; m <= 999; m++) {
            boolean isJammed = m % 2 == 0 || m % 3 == 0;
            Checks.due("a(-1) by " + m + " is JAMMED", b.termMod(0, -1, m) == -9, isJammed);
        }
        Checks.due("a(-1000) by 2", b.termMod(0, -1000, 2), -9);
        Checks.due("a(0) by 2", b.termMod(0, 0, 2), 1);
        Checks.due("a(-1) of zeros", b.two(1, 7, 6, 0, 0) + b.termMod(1, -1, 2), 2 - 9);
        b.two(1, 0, -1, 1, 1);
        b.two(2, 0, -99, 1, 1);
        for (int m = 1; m <= 999; m++) {
            Checks.due("c(2) is -1, by " + m, b.termMod(1, -1, m), m - 1);
            Checks.due("c(2) is -99, by " + m, b.termMod(2, -1, m) == -9, m % 3 == 0 || m % 11 == 0);
        }
        Checks.sentence("NONE, if n is below 0, and it does not GO BACK; otherwise JAMMED");
        b.two(3, 1, 0, 5, 3);
        for (int m : new int[] {1, 2, 999}) {
            Checks.due("a(-1) by " + m, b.termMod(3, -1, m), -1);
            Checks.due("a(-1000) by " + m, b.termMod(3, -1000, m), -1);
            Checks.due("a(0) by " + m, b.termMod(3, 0, m), 5 % m);
        }
        Checks.tell(b, 4, 0);
        for (int m : new int[] {1, 2, 999}) Checks.due("the ORDER 0 by " + m, b.termMod(4, -1, m), 0);
    }

    private static void backByOne() {
        Checks.sentence("(with m 1 it is 0)");
        Backwardterms b = Checks.busy();
        for (int name : new int[] {0, 1, 2, 3, 4, 5, 7, 8}) {
            for (int n : new int[] {-1000, -1, 0, 1, 100000}) Checks.due("a(" + n + ") by 1", b.termMod(name, n, 1), 0);
        }
    }

    // ---- identities

    private static void enough() {
        Checks.sentence("ENOUGH: k + l for the KINDS 0, 4, 5; k + l + o for 1 and 3; k * l + o for 2");
        Backwardterms b = Checks.busy();
        int[] names = {3, 2, 0, 5, 4, 7, 8};
        int[] orders = {0, 1, 2, 3, 4, 7, 8};
        for (int k = 0; k < names.length; k++) {
            for (int l = 0; l < names.length; l++) {
                int both = orders[k] + orders[l];
                int o = orders[(k + 2 * l) % orders.length];
                int c = names[(k + 2 * l) % names.length];
                for (int kind : new int[] {0, 4, 5}) Checks.due("KIND " + kind, b.enough(kind, names[k], names[l], c), both);
                for (int kind : new int[] {1, 3}) Checks.due("KIND " + kind, b.enough(kind, names[k], names[l], c), both + o);
                Checks.due("KIND 2", b.enough(2, names[k], names[l], c), orders[k] * orders[l] + o);
            }
        }
        Checks.due("the greatest", b.enough(2, 8, 8, 8), 72);
        Checks.due("the least", b.enough(2, 3, 3, 3), 0);
    }

    private static void failsAtTheLast() {
        Checks.sentence("the least n at which the IDENTITY does not hold: it is the last one that ENOUGH asks for");
        Backwardterms b = Checks.busy();
        Checks.tell(b, 20, 1, 1, 1);
        Checks.tell(b, 21, 1, 3, 1);
        Checks.tell(b, 22, 1, 2, 2);
        b.two(23, 1, 0, 0, 1);
        last(b, "1 is 2^n", 0, 20, 2, 3, 1);
        last(b, "1 + 3^n is 2 * 2^n", 1, 20, 21, 22, 2);
        last(b, "a(n) * 1 is 0 1 1 1", 2, 0, 20, 23, 3);
        last(b, "1 with 1 is 2^n", 3, 20, 20, 2, 2);
        Checks.tell(b, 24, 1, 0, 1);
        last(b, "steps of a are 1 0 0", 4, 0, 24, 9, 2);
        b.two(24, 3, 0, 0, 1);
        last(b, "each second of a is 0 1 3 9", 5, 0, 24, 9, 3);
        Checks.tell(b, 24, 4, 0, 0, 0, 1, 0, 0, 0, 1);
        last(b, "0 0 0 1 is 0", 0, 24, 3, 9, 3);
        // 1 at each eighth, but ahead of the 16th 0 from 8 on
        Checks.put(b, 1, 1, 0, 0, 0, 0, 0, 0, 0);
        Checks.due("read", b.read(19, 1), 1);
        Checks.put(b, 0, 0, 0, 0, 0, 0, 0, 1, 1);
        Checks.due("read", b.read(19, 8), 8);
        last(b, "0 to the seventh", 0, 19, 3, 9, 7);
        last(b, "1 at 7 and 0 at 15 is the round of 8", 0, 19, round(b, 18, 7), 9, 15);
    }

    /** A SEQUENCE with 1 at each eighth place from a place on. */
    private static int round(Backwardterms b, int name, int from) {
        b.derive(name, 8, 3, 8 - from);
        return name;
    }

    private static void last(Backwardterms b, String call, int kind, int one, int other, int third, int n) {
        Checks.due("ENOUGH less 1: " + call, b.enough(kind, one, other, third) - 1, n);
        Checks.due(call, b.fails(kind, one, other, third), n);
    }

    private static void failsAtTheFirst() {
        Checks.sentence("the least n of 0 or more at which the IDENTITY does not hold: 0; NONE, if it holds for all");
        Backwardterms b = Checks.busy();
        for (int kind = 0; kind <= 5; kind++) {
            Checks.due("with nothing, KIND " + kind, b.fails(kind, 3, 3, 3), -1);
            Checks.due("with zeros, KIND " + kind, b.fails(kind, 6, 6, 6), -1);
        }
        // 1 at each eighth place, at the last that is ENOUGH, too: 71
        b.derive(20, 8, 3, 1);
        Checks.due("ENOUGH for the greatest ORDERS", b.enough(2, 20, 20, 20) + " " + b.termMod(20, 71, 2), "72 1");
        Checks.due("KIND 2 of the greatest ORDERS", b.fails(2, 20, 20, 20), -1);
        b.combine(20, 0, 1, 0);
        b.combine(21, 0, 1, 2);
        b.combine(22, 0, 1, 3);
        b.derive(23, 0, 1, 0);
        b.derive(24, 0, 2, 2);
        int[][] held = {{0, 0, 0, 9}, {1, 0, 1, 20}, {2, 0, 1, 21}, {3, 0, 1, 22}, {4, 0, 23, 9}, {5, 0, 24, 9}};
        for (int[] h : held) Checks.due("KIND " + h[0], b.fails(h[0], h[1], h[2], h[3]), -1);
        int[][] failed = {{0, 0, 1, 9}, {1, 0, 1, 0}, {2, 1, 1, 1}, {3, 1, 1, 1}, {4, 0, 0, 9}, {5, 1, 0, 9}};
        for (int[] f : failed) Checks.due("KIND " + f[0], b.fails(f[0], f[1], f[2], f[3]), 0);
    }

    private static void asTheyAre() {
        Checks.sentence("ENOUGH: the ORDERS as they are, not those of their SHORTEST recurrences");
        Backwardterms b = Checks.busy();
        for (int kind = 0; kind <= 5; kind++) {
            boolean isOfThree = kind >= 1 && kind <= 3;
            Checks.due("a, KIND " + kind, b.enough(kind, 6, 2, 3), kind == 2 ? 4 : 5);
            Checks.due("b, KIND " + kind, b.enough(kind, 2, 6, 3), kind == 2 ? 4 : 5);
            Checks.due("c, KIND " + kind, b.enough(kind, 3, 3, 6), isOfThree ? 4 : 0);
        }
        b = new Backwardterms();
        Checks.tell(b, 0, 4, 0, 0, 0, 1, 5, 5, 5, 5);
        Checks.due("as told", b.enough(0, 0, 0, 0) + " " + b.enough(2, 0, 0, 0), "8 20");
        b.shorten(0);
        Checks.due("shortened", b.enough(0, 0, 0, 0) + " " + b.enough(2, 0, 0, 0), "2 2");
        b.undo();
        Checks.due("as told again", b.enough(0, 0, 0, 0) + " " + b.enough(2, 0, 0, 0), "8 20");
    }
}
