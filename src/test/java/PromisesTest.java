import java.util.function.Supplier;

/** The promises 1 to 41 of the document, one by one: ordinary inputs, the edges it names, wrong inputs. */
public final class PromisesTest {
    private static final Class<?> ARGUMENT = IllegalArgumentException.class;
    private static final Class<?> STATE = IllegalStateException.class;
    private static final Class<?> INDEX = IndexOutOfBoundsException.class;

    private static int promise;
    private static int asked;
    private static int wrong;

    public static void main(String[] args) {
        newObject();
        lay();
        sweep();
        two();
        tell();
        adopt();
        combine();
        combineRefused();
        derive();
        deriveRefused();
        longOnes();
        machine();
        read();
        shorten();
        drop();
        wind();
        undo();
        undoEachKind();
        knock();
        names();
        has();
        ofSequence();
        factor();
        text();
        term();
        termMod();
        sum();
        fraction();
        period();
        divided();
        enough();
        fails();
        desk();
        found();
        foundFactor();
        foundBy();
        difference();
        degree();
        value();
        wound();
        woundSum();
        powers();
        books();
        isSound();
        digest();
        System.out.println("PromisesTest: " + asked + " answers, " + wrong + " of them wrong");
        if (wrong > 0) System.exit(1);
    }

    // ---- what the tests are written with

    private static void due(String call, Object got, Object want) {
        asked++;
        if (want.equals(got)) return;
        wrong++;
        System.out.println("promise " + promise + ": " + call + " answered " + got + ", due is " + want);
    }

    /** The call throws exactly that, and changes nothing. */
    private static void refuses(Backwardterms b, String call, Class<?> want, Supplier<Object> doing) {
        String before = state(b);
        Object got;
        try {
            got = doing.get();
        } catch (RuntimeException e) {
            got = e.getClass();
        }
        due(call, got, want);
        due("after " + call, state(b), before);
    }

    /** All that can be seen of the object, but what undoing would bring back. */
    private static String state(Backwardterms b) {
        StringBuilder s = new StringBuilder();
        for (int what = 0; what <= 4; what++) s.append(b.books(what)).append(' ');
        return s + held(b);
    }

    /** The DESK, the SEQUENCES and WINDING. */
    private static String held(Backwardterms b) {
        StringBuilder s = new StringBuilder();
        for (int i = 0; i < b.books(0); i++) s.append(b.desk(i)).append(' ');
        for (int name = 0; name < 26; name++) if (b.has(name)) s.append(name).append('=').append(b.text(name)).append(' ');
        return s.append(b.books(3)).append(' ').append(b.wound(1)).append(' ').append(b.woundSum(3)).toString();
    }

    private static Backwardterms withDesk(int... numbers) {
        Backwardterms b = new Backwardterms();
        put(b, numbers);
        return b;
    }

    /** Sweeps, then lays. */
    private static void put(Backwardterms b, int... numbers) {
        b.sweep();
        for (int n : numbers) b.lay(1, n, 0, 0, 0, 0);
    }

    /** "a": 0 1 1 2 3 5; "b": 2 1 3 4 7 11; "c": 1 2 4 8 (ORDER 1); "d": ORDER 0; "e": 5 3 3 3, does not go back. */
    private static Backwardterms some() {
        Backwardterms b = new Backwardterms();
        b.two(0, 1, 1, 0, 1);
        b.two(1, 1, 1, 2, 1);
        tell(b, 2, 1, 2, 1);
        tell(b, 3, 0);
        b.two(4, 1, 0, 5, 3);
        b.sweep();
        return b;
    }

    private static void tell(Backwardterms b, int name, int order, int... numbers) {
        put(b, numbers);
        b.tell(name, order);
    }

    private static String first(Backwardterms b, int name, int many) {
        StringBuilder s = new StringBuilder();
        for (int n = 0; n < many; n++) s.append(n == 0 ? "" : " ").append(b.term(name, n));
        return s.toString();
    }

    // ---- the desk

    private static void newObject() {
        promise = 1;
        Backwardterms b = new Backwardterms();
        due("names()", b.names(), "");
        for (int what = 0; what <= 4; what++) due("books(" + what + ")", b.books(what), 0);
        refuses(b, "desk(0)", INDEX, () -> b.desk(0));
        refuses(b, "undo()", STATE, () -> b.undo());
        due("sweep()", b.sweep(), 0);
        due("wound(0)", b.wound(0), "none");
        due("two objects", new Backwardterms().knock() + new Backwardterms().knock(), 2);
    }

    private static void lay() {
        promise = 2;
        Backwardterms b = new Backwardterms();
        due("lay 1", b.lay(1, 99, 100, -100, 1000, Integer.MIN_VALUE), 1);
        due("lay 2", b.lay(2, -99, 7, 100, 100, 100), 3);
        due("lay 3", b.lay(3, 1, 2, 3, 100, -100), 6);
        due("lay 4", b.lay(4, 4, 5, 6, 7, 100), 10);
        due("lay 5", b.lay(5, 8, 9, 10, 11, 12), 15);
        int[] want = {99, -99, 7, 1, 2, 3, 4, 5, 6, 7, 8, 9, 10, 11, 12};
        for (int i = 0; i < want.length; i++) due("desk(" + i + ")", b.desk(i), want[i]);
        refuses(b, "lay 2 of 15", STATE, () -> b.lay(2, 1, 2, 0, 0, 0));
        refuses(b, "lay 5 of 15", STATE, () -> b.lay(5, 1, 2, 3, 4, 5));
        due("lay the 16th", b.lay(1, -1, 0, 0, 0, 0), 16);
        due("desk(15)", b.desk(15), -1);
        refuses(b, "lay a 17th", STATE, () -> b.lay(1, 0, 0, 0, 0, 0));
        refuses(b, "lay a wrong 17th", ARGUMENT, () -> b.lay(1, 100, 0, 0, 0, 0));
        Backwardterms c = new Backwardterms();
        for (int many : new int[] {0, 6, -1, Integer.MAX_VALUE, Integer.MIN_VALUE}) {
            refuses(c, "lay(" + many + ")", ARGUMENT, () -> c.lay(many, 0, 0, 0, 0, 0));
        }
        for (int off : new int[] {100, -100, Integer.MAX_VALUE, Integer.MIN_VALUE}) {
            refuses(c, "lay a " + off, ARGUMENT, () -> c.lay(1, off, 0, 0, 0, 0));
            refuses(c, "lay b " + off, ARGUMENT, () -> c.lay(2, 0, off, 0, 0, 0));
            refuses(c, "lay c " + off, ARGUMENT, () -> c.lay(3, 0, 0, off, 0, 0));
            refuses(c, "lay d " + off, ARGUMENT, () -> c.lay(4, 0, 0, 0, off, 0));
            refuses(c, "lay e " + off, ARGUMENT, () -> c.lay(5, 0, 0, 0, 0, off));
        }
    }

    private static void sweep() {
        promise = 3;
        Backwardterms b = withDesk(1, 2, 3, 4, 5, 6, 7, 8, 9, 10, 11, 12, 13, 14, 15, 16);
        due("found(0)", b.found(0), 2);
        due("sweep()", b.sweep(), 16);
        due("sweep()", b.sweep(), 0);
        due("books(0)", b.books(0), 0);
        due("found(0)", b.found(0), 0);
        due("lay after it", b.lay(1, 5, 0, 0, 0, 0), 1);
        due("found(0)", b.found(0), 1);
    }

    // ---- sequences

    private static void two() {
        promise = 4;
        Backwardterms b = new Backwardterms();
        due("two(0, ..)", b.two(0, 1, 1, 0, 1), 1);
        due("two(25, ..)", b.two(25, 99, -99, -99, 99), 2);
        due("two(0, ..) again", b.two(0, 2, 3, 4, 5), 2);
        due("text(0)", b.text(0), "2 3 ; 4 5");
        due("text(25)", b.text(25), "99 -99 ; -99 99");
        due("zeros", b.two(7, 0, 0, 0, 0), 3);
        due("text(7)", b.text(7), "0 0 ; 0 0");
        due("books(2)", b.books(2), 4);
        for (int off : new int[] {-1, 26, Integer.MAX_VALUE, Integer.MIN_VALUE}) {
            refuses(b, "name " + off, ARGUMENT, () -> b.two(off, 1, 1, 1, 1));
        }
        for (int off : new int[] {100, -100, Integer.MAX_VALUE, Integer.MIN_VALUE}) {
            refuses(b, "c " + off, ARGUMENT, () -> b.two(1, off, 1, 1, 1));
            refuses(b, "d " + off, ARGUMENT, () -> b.two(1, 1, off, 1, 1));
            refuses(b, "first " + off, ARGUMENT, () -> b.two(1, 1, 1, off, 1));
            refuses(b, "second " + off, ARGUMENT, () -> b.two(1, 1, 1, 1, off));
        }
    }

    private static void tell() {
        promise = 5;
        Backwardterms b = withDesk(1, 2, 3, 4, 5, 6, 7, 8, 9);
        due("tell(0, 0)", b.tell(0, 0), 1);
        due("tell(1, 1)", b.tell(1, 1), 2);
        due("tell(2, 2)", b.tell(2, 2), 3);
        due("tell(3, 3)", b.tell(3, 3), 4);
        due("tell(4, 4)", b.tell(4, 4), 5);
        due("tell(4, 4)", b.tell(4, 4), 5);
        due("text(0)", b.text(0), "0");
        due("text(1)", b.text(1), "1 ; 2");
        due("text(2)", b.text(2), "1 2 ; 3 4");
        due("text(3)", b.text(3), "1 2 3 ; 4 5 6");
        due("text(4)", b.text(4), "1 2 3 4 ; 5 6 7 8");
        due("the desk stays", b.books(0), 9);
        refuses(b, "tell(26, 0)", ARGUMENT, () -> b.tell(26, 0));
        refuses(b, "tell(-1, 0)", ARGUMENT, () -> b.tell(-1, 0));
        refuses(b, "tell(0, 5)", ARGUMENT, () -> b.tell(0, 5));
        refuses(b, "tell(0, -1)", ARGUMENT, () -> b.tell(0, -1));
        refuses(b, "tell(0, MAX)", ARGUMENT, () -> b.tell(0, Integer.MAX_VALUE));
        put(b, 1, 2, 3, 4, 5);
        refuses(b, "tell(0, 3) of 5", STATE, () -> b.tell(0, 3));
        refuses(b, "tell(26, 3) of 5", ARGUMENT, () -> b.tell(26, 3));
        refuses(b, "tell(0, 5) of 5", ARGUMENT, () -> b.tell(0, 5));
        b.sweep();
        refuses(b, "tell(0, 1) of none", STATE, () -> b.tell(0, 1));
        due("tell(5, 0) of none", b.tell(5, 0), 6);
    }

    private static void adopt() {
        promise = 6;
        Backwardterms b = withDesk(0, 1, 1, 2, 3, 5, 8);
        due("adopt", b.adopt(0), 2);
        due("text", b.text(0), "1 1 ; 0 1");
        put(b, 5, 3, 3, 3);
        due("adopt with c(2) 0", b.adopt(1), 2);
        due("text", b.text(1), "1 0 ; 5 3");
        b.sweep();
        due("adopt of none", b.adopt(2), 0);
        due("text", b.text(2), "0");
        put(b, 0, 0, 0);
        due("adopt of zeros", b.adopt(2), 0);
        put(b, 7, -7);
        due("adopt of two", b.adopt(2), 1);
        due("text", b.text(2), "-1 ; 7");
        String before = state(b);
        put(b, 7);
        due("one number", b.adopt(2), -7);
        put(b, 0, 1);
        due("0 1", b.adopt(2), -7);
        put(b, 2, 3, 5);
        due("odd and unsure", b.adopt(2), -7);
        put(b, 2, 3);
        due("3/2", b.adopt(2), -6);
        put(b, 2, 3, 5, 8, 13);
        due("2 3 5 8 13", b.adopt(3), 2);
        b.undo();
        put(b, 1, 1, 2, 2, 1, 3, 1);
        due("unsure before broken", b.adopt(2), -7);
        put(b, 7, -7);
        due("nothing is changed", state(b), before);
        // f(3) is 990000, f(4) of the longer one -99000000
        put(b, 0, 0, 1, 99, -99, 99);
        due("six digits", b.adopt(4), 3);
        due("text", b.text(4), "99 -9900 990000 ; 0 0 1");
        put(b, 0, 0, 0, 1, 99, -99, 99, -99);
        refuses(b, "long", STATE, () -> b.adopt(4));
        refuses(b, "name ahead of long", ARGUMENT, () -> b.adopt(26));
        put(b, 0, 0, 0, 2, 99, -99, 99, -99);
        due("broken and long", b.adopt(4), -6);
        put(b, 0, 1);
        refuses(b, "name ahead of unsure", ARGUMENT, () -> b.adopt(-1));
    }

    private static void combine() {
        promise = 7;
        Backwardterms b = some();
        due("a + a", b.combine(5, 0, 0, 0), 2);
        due("text", b.text(5), "1 1 ; 0 2");
        due("a - a", b.combine(5, 0, 0, 1), 0);
        due("a - b", b.combine(5, 0, 1, 1), 2);
        due("text", b.text(5), "1 1 ; -2 0");
        due("a + c", b.combine(5, 0, 2, 0), 3);
        due("text", b.text(5), "3 -1 -2 ; 1 3 5");
        due("a * a", b.combine(5, 0, 0, 2), 3);
        due("text", b.text(5), "2 2 -1 ; 0 1 1");
        due("a * c", b.combine(5, 0, 2, 2), 2);
        due("text", b.text(5), "2 4 ; 0 2");
        due("a * d", b.combine(5, 0, 3, 2), 0);
        due("a with a", b.combine(5, 0, 0, 3), 4);
        due("text", b.text(5), "2 1 -2 -1 ; 0 0 1 2");
        due("terms", first(b, 5, 8), "0 0 1 2 5 10 20 38");
        due("that divided by c", b.combine(6, 5, 2, 4), 4);
        // what is divided by 1, 2, 4, ... is each term less twice the one ahead of it
        due("terms", first(b, 6, 7), "0 0 1 0 1 0 0");
        due("b(0) is -1", b.two(7, 1, 1, -1, 3), 8);
        due("a divided by it", b.combine(8, 0, 7, 4), 2);
        due("terms", first(b, 8, 5), "0 -1 -4 -16 -64");
        due("d + d", b.combine(9, 3, 3, 0), 0);
        due("d with a", b.combine(9, 3, 0, 3), 0);
        due("into one of its own", b.combine(0, 0, 0, 2), 3);
        due("text", b.text(0), "2 2 -1 ; 0 1 1");
        String before = state(b);
        due("b(0) is 2", b.combine(5, 2, 1, 4), -5);
        due("b(0) is 0", b.combine(5, 2, 0, 4), -5);
        due("the ORDER 0 below", b.combine(5, 2, 3, 4), -5);
        due("nothing is changed", state(b), before);
        due("the ORDER 0 above", b.combine(5, 3, 2, 4), 0);
    }

    private static void combineRefused() {
        Backwardterms b = some();
        refuses(b, "one is none", INDEX, () -> b.combine(26, 9, 0, 9));
        refuses(b, "other is none", INDEX, () -> b.combine(26, 0, 9, 9));
        refuses(b, "one is no name", INDEX, () -> b.combine(5, -1, 0, 0));
        refuses(b, "other is no name", INDEX, () -> b.combine(5, 0, 26, 0));
        refuses(b, "name", ARGUMENT, () -> b.combine(26, 0, 0, 0));
        refuses(b, "name", ARGUMENT, () -> b.combine(-1, 0, 0, 0));
        refuses(b, "how", ARGUMENT, () -> b.combine(5, 0, 0, 5));
        refuses(b, "how", ARGUMENT, () -> b.combine(5, 0, 0, -1));
        // 0 1, of the ORDER 4 and of the ORDER 3
        tell(b, 10, 4, 1, 1, 0, 1, 0, 1, 1, 2);
        tell(b, 11, 3, 1, 1, 1, 0, 0, 1);
        b.sweep();
        due("4 + 4", b.combine(12, 10, 10, 3), 8);
        refuses(b, "8 + 1", STATE, () -> b.combine(5, 12, 2, 0));
        refuses(b, "8 + 2", STATE, () -> b.combine(5, 12, 0, 1));
        refuses(b, "2 + 8", STATE, () -> b.combine(5, 0, 12, 3));
        refuses(b, "refused ahead of crooked", STATE, () -> b.combine(5, 2, 12, 4));
        refuses(b, "3 * 3", STATE, () -> b.combine(5, 11, 11, 2));
        due("8 * 1", b.combine(5, 12, 2, 2), 8);
        due("8 + 0", b.combine(5, 12, 3, 0), 8);
        due("2 * 4", b.combine(5, 0, 10, 2), 8);
        due("4 + 4 of one", b.combine(5, 10, 10, 0), 4);
        refuses(b, "the arguments ahead of 3 * 3", ARGUMENT, () -> b.combine(26, 11, 11, 2));
    }

    private static void derive() {
        promise = 8;
        Backwardterms b = some();
        due("sums", b.derive(5, 0, 0, 0), 3);
        due("text", b.text(5), "2 0 -1 ; 0 1 2");
        due("sums of the ORDER 0", b.derive(5, 3, 0, 0), 0);
        due("steps", b.derive(5, 0, 1, 0), 2);
        due("text", b.text(5), "1 1 ; 1 0");
        due("each", b.derive(5, 0, 2, 1), 2);
        due("text", b.text(5), "1 1 ; 0 1");
        due("each third", b.derive(5, 0, 2, 3), 2);
        due("text", b.text(5), "4 1 ; 0 2");
        due("each sixth of c", b.derive(5, 2, 2, 6), 1);
        due("text", b.text(5), "64 ; 1");
        due("from 0 on", b.derive(5, 0, 3, 0), 2);
        due("text", b.text(5), "1 1 ; 0 1");
        due("from 20 on", b.derive(5, 0, 3, 20), 2);
        due("text", b.text(5), "1 1 ; 6765 10946");
        due("from 1 on, of 5 3 3 3", b.derive(5, 4, 3, 1), 1);
        due("text", b.text(5), "1 ; 3");
        due("9 times", b.derive(5, 0, 4, 9), 2);
        due("text", b.text(5), "1 1 ; 0 9");
        due("-9 times", b.derive(5, 0, 4, -9), 2);
        due("text", b.text(5), "1 1 ; 0 -9");
        due("0 times", b.derive(5, 0, 4, 0), 0);
        due("by 1", b.derive(5, 0, 5, 1), 2);
        due("text", b.text(5), "1 1 ; 0 1");
        due("by 3", b.derive(5, 0, 5, 3), 6);
        due("text", b.text(5), "0 0 1 0 0 1 ; 0 0 0 1 0 0");
        due("by 8", b.derive(5, 2, 5, 8), 8);
        due("text", b.text(5), "0 0 0 0 0 0 0 2 ; 1 0 0 0 0 0 0 0");
        due("the ORDER 0 by 8", b.derive(5, 3, 5, 8), 0);
        due("n + 3", b.derive(5, 0, 6, 3), 4);
        due("text", b.text(5), "2 1 -2 -1 ; 0 4 5 12");
        due("n - 9", b.derive(5, 2, 6, -9), 2);
        due("text", b.text(5), "4 -4 ; -9 -16");
        due("n + 9", b.derive(5, 2, 6, 9), 2);
        due("text", b.text(5), "4 -4 ; 9 20");
        due("into its own name", b.derive(0, 0, 2, 3), 2);
        due("text", b.text(0), "4 1 ; 0 2");
    }

    private static void deriveRefused() {
        Backwardterms b = some();
        refuses(b, "no such one", INDEX, () -> b.derive(26, 9, 9, 99));
        refuses(b, "no name", INDEX, () -> b.derive(5, 26, 0, 0));
        refuses(b, "no name", INDEX, () -> b.derive(5, -1, 0, 0));
        refuses(b, "name", ARGUMENT, () -> b.derive(26, 0, 0, 0));
        refuses(b, "name", ARGUMENT, () -> b.derive(-1, 0, 0, 0));
        refuses(b, "how", ARGUMENT, () -> b.derive(5, 0, 7, 0));
        refuses(b, "how", ARGUMENT, () -> b.derive(5, 0, -1, 0));
        int[][] off = {{0, 1}, {0, -1}, {1, 1}, {1, -1}, {2, 0}, {2, 7}, {2, -1}, {3, -1}, {3, 21}, {4, -10}, {4, 10},
            {5, 0}, {5, 9}, {5, -1}, {6, -10}, {6, 10}, {2, Integer.MIN_VALUE}, {5, Integer.MAX_VALUE}};
        for (int[] o : off) refuses(b, "how " + o[0] + " by " + o[1], ARGUMENT, () -> b.derive(5, 0, o[0], o[1]));
        refuses(b, "2 * 5", STATE, () -> b.derive(5, 0, 5, 5));
        due("2 * 4", b.derive(5, 0, 5, 4), 8);
        refuses(b, "8 + 1", STATE, () -> b.derive(6, 5, 0, 0));
        refuses(b, "2 * 8", STATE, () -> b.derive(6, 5, 6, 0));
        refuses(b, "8 * 2", STATE, () -> b.derive(6, 5, 5, 2));
        due("8 by each", b.derive(6, 5, 1, 0), 8);
        refuses(b, "the arguments ahead of 8 + 1", ARGUMENT, () -> b.derive(26, 5, 0, 0));
        put(b, 1, 1, 0, 0, 0, 0, 0, 0, -1);
        due("1 / (1 - x^7)", b.read(7, 1), 7);
        due("7 + 1", b.derive(6, 7, 0, 0), 8);
        due("text", b.text(6), "1 0 0 0 0 0 1 -1 ; 1 1 1 1 1 1 1 2");
    }

    /** FACTORS of 6 and 7 digits, FIRST TERMS of 9 and 10. */
    private static void longOnes() {
        Backwardterms b = new Backwardterms();
        tell(b, 0, 1, 99, 1);
        tell(b, 1, 1, 91, 1);
        tell(b, 2, 1, 37, 1);
        tell(b, 3, 1, 3, 1);
        tell(b, 9, 1, -3, 1);
        b.combine(0, 0, 1, 2);
        b.combine(0, 0, 2, 2);
        due("999999", b.combine(4, 0, 3, 2), 1);
        due("text", b.text(4), "999999 ; 1");
        due("-999999", b.combine(5, 0, 9, 2), 1);
        due("text", b.text(5), "-999999 ; 1");
        tell(b, 6, 1, 10, 1);
        refuses(b, "1000000", STATE, () -> b.derive(7, 6, 2, 6));
        due("100000", b.derive(7, 6, 2, 5), 1);
        b.two(10, 10, 0, 1, 10);
        refuses(b, "1000000 with the bound 2", STATE, () -> b.derive(7, 10, 2, 6));
        due("100000 with the bound 2", b.derive(7, 10, 2, 5), 1);
        tell(b, 8, 1, -10, 1);
        refuses(b, "-1000000", STATE, () -> b.combine(5, 7, 8, 2));
        Backwardterms c = constants(78, 47, 91, 61, 37, 1);
        c.combine(0, 0, 1, 2);
        c.combine(0, 0, 2, 2);
        c.combine(0, 0, 3, 0);
        c.combine(0, 0, 4, 2);
        c.derive(0, 0, 4, 9);
        due("999999999", c.derive(0, 0, 4, 9), 1);
        due("text", c.text(0), "1 ; 999999999");
        refuses(c, "1000000000", STATE, () -> c.combine(6, 0, 5, 0));
        due("-999999999", c.derive(6, 0, 4, -1), 1);
        refuses(c, "-1000000000", STATE, () -> c.combine(6, 6, 5, 1));
        due("999999998", c.combine(6, 0, 5, 1), 1);
        refuses(c, "sums of 999999998", STATE, () -> c.derive(6, 0, 0, 0));
    }

    /** SEQUENCES that are such a number everywhere. */
    private static Backwardterms constants(int... numbers) {
        Backwardterms b = new Backwardterms();
        for (int name = 0; name < numbers.length; name++) tell(b, name, 1, 1, numbers[name]);
        b.sweep();
        return b;
    }

    private static void machine() {
        promise = 9;
        Backwardterms b = withDesk(0, 1, 0, 2, 2, 2, 9);
        due("rows without 11", b.machine(0, 3, 2, 3), 2);
        due("text", b.text(0), "1 1 ; 1 2");
        due("rows with 11", b.machine(0, 3, 2, 4), 3);
        due("terms", first(b, 0, 6), "0 0 1 3 8 19");
        due("all rows", b.machine(0, 3, 2, 7), 1);
        due("text", b.text(0), "2 ; 1");
        due("no rows", b.machine(0, 3, 2, 0), 0);
        due("a set of 0 alone", b.machine(0, 3, 2, 1), 2);
        due("terms", first(b, 0, 5), "1 1 2 3 5");
        put(b, 0, 0, 0, 0);
        due("one state", b.machine(1, 1, 4, 1), 1);
        due("text", b.text(1), "4 ; 1");
        put(b, 1, 2, 3, 0);
        due("round", b.machine(1, 4, 1, 8), 4);
        due("text", b.text(1), "0 0 0 1 ; 0 0 0 1");
        due("sixteen", put16(b), 16);
        due("four and four", b.machine(2, 4, 4, 15), 1);
        String before = state(b);
        put(b, 0, 1, 2, 0);
        due("FAULT of 2", b.machine(0, 2, 2, 1), -102);
        put(b, -1, 9, 0, 0);
        due("FAULT of 0", b.machine(0, 2, 2, 1), -100);
        put(b, 0, 0, 0, 3);
        due("FAULT of 3", b.machine(0, 2, 2, 1), -103);
        put(b, 0, 0, 0, 0, 0, 0, 0, 0, 0, 0, 0, 0, 0, 0, 0, 4);
        due("FAULT of 15", b.machine(0, 4, 4, 1), -115);
        put16(b);
        due("nothing is changed", state(b), before);
        refuses(b, "name", ARGUMENT, () -> b.machine(26, 1, 1, 1));
        refuses(b, "name", ARGUMENT, () -> b.machine(-1, 1, 1, 1));
        refuses(b, "states", ARGUMENT, () -> b.machine(0, 0, 1, 0));
        refuses(b, "states", ARGUMENT, () -> b.machine(0, 5, 1, 1));
        refuses(b, "letters", ARGUMENT, () -> b.machine(0, 1, 0, 1));
        refuses(b, "letters", ARGUMENT, () -> b.machine(0, 1, 5, 1));
        refuses(b, "set", ARGUMENT, () -> b.machine(0, 2, 2, 4));
        refuses(b, "set", ARGUMENT, () -> b.machine(0, 2, 2, -1));
        refuses(b, "set", ARGUMENT, () -> b.machine(0, 4, 1, 16));
        refuses(b, "states far off", ARGUMENT, () -> b.machine(0, Integer.MAX_VALUE, Integer.MAX_VALUE, 0));
        put(b, 0, 9, 0);
        refuses(b, "a short desk ahead of a FAULT", STATE, () -> b.machine(0, 2, 2, 1));
        refuses(b, "wrong ahead of a short desk", ARGUMENT, () -> b.machine(0, 2, 2, 4));
    }

    private static int put16(Backwardterms b) {
        put(b, 0, 1, 2, 3, 3, 2, 1, 0, 1, 1, 1, 1, 2, 2, 2, 2);
        return b.books(0);
    }

    private static void read() {
        promise = 10;
        Backwardterms b = withDesk(0, 1, 1, -1, -1);
        due("two above", b.read(0, 2), 2);
        due("text", b.text(0), "1 1 ; 0 1");
        due("one above", b.read(1, 1), 0);
        due("three above", b.read(1, 3), 2);
        due("text", b.text(1), "0 0 ; 0 -1");
        due("four above", b.read(1, 4), 4);
        due("text", b.text(1), "0 0 0 0 ; 0 -1 -1 1");
        String before = state(b);
        due("none above, q(0) is 0", b.read(1, 0), -5);
        put(b, 1, 2, 3);
        due("q(0) is 2", b.read(1, 1), -5);
        put(b, 0, 1, 1, -1, -1);
        due("nothing is changed", state(b), before);
        refuses(b, "all above", STATE, () -> b.read(1, 5));
        refuses(b, "more than all above", STATE, () -> b.read(1, 16));
        refuses(b, "17 above", ARGUMENT, () -> b.read(1, 17));
        refuses(b, "-1 above", ARGUMENT, () -> b.read(1, -1));
        refuses(b, "name", ARGUMENT, () -> b.read(26, 2));
        refuses(b, "name ahead of a short desk", ARGUMENT, () -> b.read(-1, 16));
        put(b, 3, -1, 2);
        due("3 / (-1 + 2x)", b.read(2, 1), 1);
        due("text", b.text(2), "2 ; -3");
        put(b, 1);
        due("0 / 1", b.read(2, 0), 0);
        put(b, 1, 0, 0, 0, 0, 0, 0, 0, -1);
        due("0 / (1 - x^8)", b.read(2, 0), 0);
        put(b, 1, 1, 0, 0, 0, 0, 0, 0, 0, -1);
        due("1 / (1 - x^8)", b.read(2, 1), 8);
        due("text", b.text(2), "0 0 0 0 0 0 0 1 ; 1 0 0 0 0 0 0 0");
        put(b, 1, 1, 0, 0, 0, 0, 0, 0, 0, 0, -1);
        refuses(b, "1 / (1 - x^9)", STATE, () -> b.read(2, 1));
        put(b, 0, 0, 0, 0, 0, 0, 0, 5, 1);
        due("5x^7 / 1", b.read(2, 8), 8);
        put(b, 0, 0, 0, 0, 0, 0, 0, 0, 5, 1);
        refuses(b, "5x^8 / 1", STATE, () -> b.read(2, 9));
        put(b, 0, 0, 0, 0, 0, 0, 0, 0, 5, 2);
        refuses(b, "refused ahead of crooked", STATE, () -> b.read(2, 9));
        b.sweep();
        refuses(b, "an empty desk", STATE, () -> b.read(2, 0));
        put(b, 0, 0, 0, 0, 0, 99, 1, -99, -99, -99, -99, -99, -99, -99, -99);
        due("99x^5 / (1 - 99x - ..)", b.read(2, 6), 8);
        due("text", b.text(2), "99 99 99 99 99 99 99 99 ; 0 0 0 0 0 99 9801 980100");
        put(b, 99, 99, 99, 99, 99, 99, 1, -99, -99, -99, -99, -99, -99, -99, -99);
        refuses(b, "a FIRST TERM of ten digits", STATE, () -> b.read(2, 6));
    }

    private static void shorten() {
        promise = 11;
        Backwardterms b = new Backwardterms();
        b.two(0, 3, -2, 4, 4);
        due("3 -2 ; 4 4", b.shorten(0), 1);
        due("text", b.text(0), "1 ; 4");
        due("again", b.shorten(0), 0);
        due("each is a CHANGE", b.books(2), 3);
        b.two(1, 7, 9, 0, 0);
        due("zeros", b.shorten(1), 2);
        due("text", b.text(1), "0");
        due("the ORDER 0", b.shorten(1), 0);
        tell(b, 2, 4, 0, 2, 0, -1, 0, 1, 2, 3);
        due("(x^2 - 1)^2 of 0 1 2 3", b.shorten(2), 2);
        due("text", b.text(2), "2 -1 ; 0 1");
        b.undo();
        due("text", b.text(2), "0 2 0 -1 ; 0 1 2 3");
        b.two(3, 1, 0, 5, 3);
        due("5 3 3 3", b.shorten(3), 0);
        due("text", b.text(3), "1 0 ; 5 3");
        refuses(b, "none", INDEX, () -> b.shorten(4));
        refuses(b, "no name", INDEX, () -> b.shorten(26));
        refuses(b, "no name", INDEX, () -> b.shorten(-1));
        refuses(b, "no name", INDEX, () -> b.shorten(Integer.MIN_VALUE));
    }

    private static void drop() {
        promise = 12;
        Backwardterms b = some();
        due("drop", b.drop(2), 4);
        due("names()", b.names(), "abde");
        refuses(b, "again", INDEX, () -> b.drop(2));
        refuses(b, "no name", INDEX, () -> b.drop(26));
        refuses(b, "no name", INDEX, () -> b.drop(-1));
        for (int name : new int[] {0, 1, 3}) b.drop(name);
        due("the last", b.drop(4), 0);
        due("names()", b.names(), "");
        b.undo();
        due("undone", b.text(4), "1 0 ; 5 3");
    }

    private static void wind() {
        promise = 13;
        int[][] cases = {{1, 0, 41}, {0, 0, 2}, {-2, 1, 2}, {-3, 1, 3}, {-40, 1, 40}, {-41, 1, 41}, {98, -49, 2},
            {99, -3, 33}, {-1, 1, 41}, {-5, 2, 41}};
        for (int[] c : cases) {
            Backwardterms b = withDesk(c[0], c[1], 1, 0, 1, 0, 1, 1);
            due("wind() with " + c[0] + " and " + c[1], b.wind(), c[2]);
            due("books(3)", b.books(3), c[2]);
        }
        Backwardterms b = withDesk(0, 1, -1, 2, 1, -1, 1, 2, 77);
        due("wind() of nine numbers", b.wind(), 41);
        due("the desk stays", b.books(0), 9);
        b.sweep();
        due("it stays without the desk", b.wound(7), "503/140");
        refuses(b, "none", STATE, () -> b.wind());
        put(b, 1, 1, 1, 1, 1, 1, 1);
        refuses(b, "seven", STATE, () -> b.wind());
        put(b, 1, 1, 1, 1, 1, 1, 1, 1);
        due("another one", b.wind(), 41);
        due("wound(7)", b.wound(7), "21");
    }

    private static void undo() {
        promise = 14;
        Backwardterms b = new Backwardterms();
        refuses(b, "nothing yet", STATE, () -> b.undo());
        for (int i = 1; i <= 12; i++) {
            b.two(i % 3, i, 0, 0, 0);
            due("can be undone", b.books(2), Math.min(i, 10));
        }
        // what calls that come to nothing, and the desk and knocks, do not touch
        put(b, 0, 1);
        b.knock();
        due("adopt", b.adopt(0), -7);
        due("read", b.read(0, 0), -5);
        refuses(b, "tell", STATE, () -> b.tell(0, 2));
        due("can be undone", b.books(2), 10);
        for (int left = 9; left >= 0; left--) {
            due("undo()", b.undo(), left);
            due("the desk", b.books(0), 2);
            due("knocks", b.books(4), 1);
            // the CHANGE that is the last now is that of two(.., left + 2, ..)
            due("text", b.text((left + 2) % 3), (left + 2) + " 0 ; 0 0");
        }
        due("names()", b.names(), "bc");
        refuses(b, "the 11th is forgotten", STATE, () -> b.undo());
        due("undoing is no CHANGE", b.books(2), 0);
        b.drop(1);
        due("undo() of one", b.undo(), 0);
        due("text", b.text(1), "1 0 ; 0 0");
    }

    private static void undoEachKind() {
        Backwardterms b = some();
        b.two(6, 3, -2, 4, 4);
        put(b, 1, 1, 0, 1, 1, 0, 1, 1);
        String[] kinds = {"two", "two new", "tell", "adopt", "combine", "derive", "machine", "read", "shorten", "drop", "wind"};
        String had = held(b);
        for (int kind = 0; kind < kinds.length; kind++) {
            b.undo();
            b.two(6, 3, -2, 4, 4);
            int changes = b.books(2);
            changeBy(b, kind);
            due(kinds[kind] + " is a CHANGE", b.books(2), changes + 1);
            if (kind != 0) due(kinds[kind] + " does something", held(b).equals(had), false);
            due("undo() of " + kinds[kind], b.undo(), changes);
            due("after it", held(b), had);
        }
    }

    private static void changeBy(Backwardterms b, int kind) {
        switch (kind) {
            case 0: b.two(6, 3, -2, 4, 4); break;
            case 1: b.two(25, 1, 2, 3, 4); break;
            case 2: b.tell(0, 3); break;
            case 3: b.adopt(1); break;
            case 4: b.combine(2, 0, 1, 0); break;
            case 5: b.derive(3, 0, 0, 0); break;
            case 6: b.machine(4, 2, 2, 1); break;
            case 7: b.read(5, 1); break;
            case 8: b.shorten(6); break;
            case 9: b.drop(0); break;
            default: b.wind();
        }
    }

    private static void knock() {
        promise = 15;
        Backwardterms b = some();
        due("knock()", b.knock(), 1);
        due("knock()", b.knock(), 2);
        b.undo();
        b.sweep();
        due("knock()", b.knock(), 3);
    }

    // ---- asked of sequences

    private static void names() {
        promise = 16;
        Backwardterms b = new Backwardterms();
        due("names()", b.names(), "");
        b.two(25, 0, 0, 0, 0);
        b.two(0, 0, 0, 0, 0);
        b.two(12, 0, 0, 0, 0);
        due("names()", b.names(), "amz");
        for (int name = 0; name < 26; name++) b.two(name, 0, 0, 0, 0);
        due("names()", b.names(), "abcdefghijklmnopqrstuvwxyz");
        b.undo();
        due("names()", b.names(), "abcdefghijklmnopqrstuvwxyz");
        b.drop(1);
        due("names()", b.names(), "acdefghijklmnopqrstuvwxyz");
    }

    private static void has() {
        promise = 17;
        Backwardterms b = some();
        due("has(0)", b.has(0), true);
        due("has(4)", b.has(4), true);
        for (int name : new int[] {5, 25, 26, -1, Integer.MAX_VALUE, Integer.MIN_VALUE}) due("has(" + name + ")", b.has(name), false);
        b.two(25, 0, 0, 0, 0);
        due("has(25)", b.has(25), true);
        b.drop(25);
        due("has(25)", b.has(25), false);
    }

    private static void asOf(Backwardterms b, int name, int... want) {
        for (int what = 0; what <= 4; what++) due("ofSequence(" + name + ", " + what + ")", b.ofSequence(name, what), want[what]);
    }

    private static void ofSequence() {
        promise = 18;
        Backwardterms b = some();
        asOf(b, 0, 2, 2, 1, 30, 0);
        asOf(b, 1, 2, 2, 1, 30, -1);
        asOf(b, 2, 1, 1, 1, 0, -1);
        asOf(b, 3, 0, 0, 1, 30, 30);
        asOf(b, 4, 2, 2, 0, 0, -1);
        b.two(5, 3, -2, 4, 4);
        asOf(b, 5, 2, 1, 1, 30, -1);
        b.two(5, 1, 2, 4, 8);
        asOf(b, 5, 2, 1, 1, 2, -1);
        // a(-1) is 2, a(-2) 1/2, a(-3) 1
        b.two(5, 0, 2, 1, 4);
        asOf(b, 5, 2, 2, 1, 1, -1);
        b.two(5, 0, -2, 1, 4);
        asOf(b, 5, 2, 2, 1, 1, -1);
        b.two(5, 0, 1, 0, 5);
        asOf(b, 5, 2, 2, 1, 30, 30);
        b.two(5, 0, -1, 5, 0);
        asOf(b, 5, 2, 2, 1, 30, 29);
        b.two(5, 2, -1, -30, -29);
        asOf(b, 5, 2, 2, 1, 30, 30);
        b.two(5, 2, -1, -31, -30);
        asOf(b, 5, 2, 2, 1, 30, -1);
        b.two(5, 7, 9, 0, 0);
        asOf(b, 5, 2, 0, 1, 30, 30);
        b.two(5, 7, 0, 0, 0);
        asOf(b, 5, 2, 0, 0, 0, 30);
        b.two(5, 0, 0, 0, 1);
        asOf(b, 5, 2, 2, 0, 0, 30);
        // c(2) is 2: 2^30 goes in thirty times
        tell(b, 6, 1, 2, 1);
        b.derive(6, 6, 3, 20);
        asOf(b, 6, 1, 1, 1, 20, -1);
        b.derive(6, 6, 3, 9);
        asOf(b, 6, 1, 1, 1, 29, -1);
        refuses(b, "none", INDEX, () -> b.ofSequence(9, 5));
        refuses(b, "no name", INDEX, () -> b.ofSequence(26, 0));
        refuses(b, "no name", INDEX, () -> b.ofSequence(-1, 0));
        refuses(b, "what", ARGUMENT, () -> b.ofSequence(0, 5));
        refuses(b, "what", ARGUMENT, () -> b.ofSequence(0, -1));
    }

    private static void factor() {
        promise = 19;
        Backwardterms b = withDesk(1, -2, 0, 99, 5, 6, 7, 8);
        b.tell(0, 4);
        String[] want = {"1", "-2", "0", "99"};
        for (int k = 1; k <= 4; k++) due("factor(0, " + k + ")", b.factor(0, k), want[k - 1]);
        b.tell(1, 0);
        refuses(b, "k", ARGUMENT, () -> b.factor(0, 0));
        refuses(b, "k", ARGUMENT, () -> b.factor(0, 5));
        refuses(b, "k", ARGUMENT, () -> b.factor(0, Integer.MIN_VALUE));
        refuses(b, "k of the ORDER 0", ARGUMENT, () -> b.factor(1, 1));
        refuses(b, "k of the ORDER 0", ARGUMENT, () -> b.factor(1, 0));
        refuses(b, "none", INDEX, () -> b.factor(2, 0));
        refuses(b, "no name", INDEX, () -> b.factor(26, 1));
    }

    private static void text() {
        promise = 20;
        Backwardterms b = some();
        due("text(0)", b.text(0), "1 1 ; 0 1");
        due("text(2)", b.text(2), "2 ; 1");
        due("text(3)", b.text(3), "0");
        tell(b, 5, 4, -1, 0, 99, -99, 0, -7, 10, 98);
        due("text(5)", b.text(5), "-1 0 99 -99 ; 0 -7 10 98");
        refuses(b, "none", INDEX, () -> b.text(6));
        refuses(b, "no name", INDEX, () -> b.text(26));
        refuses(b, "no name", INDEX, () -> b.text(-1));
    }

    private static void term() {
        promise = 21;
        Backwardterms b = some();
        due("first ones", first(b, 0, 12), "0 1 1 2 3 5 8 13 21 34 55 89");
        due("first ones", first(b, 4, 4), "5 3 3 3");
        due("term(0, 99)", b.term(0, 99), "218922995834555169026");
        due("term(0, 100)", b.term(0, 100), "354224848179261915075");
        due("term(0, -1)", b.term(0, -1), "1");
        due("term(0, -30)", b.term(0, -30), "-832040");
        due("term(1, -3)", b.term(1, -3), "-4");
        due("term(2, 100)", b.term(2, 100), "1267650600228229401496703205376");
        due("term(2, -30)", b.term(2, -30), "1/1073741824");
        due("term(3, 7)", b.term(3, 7), "0");
        due("term(3, -7)", b.term(3, -7), "0");
        due("term(4, -1)", b.term(4, -1), "none");
        due("term(4, 0)", b.term(4, 0), "5");
        due("term(4, 100)", b.term(4, 100), "3");
        b.two(5, 2, 3, 1, 2);
        String[] want = {"0", "1/3", "-2/9", "7/27", "-20/81", "61/243"};
        for (int n = 1; n <= 6; n++) due("term(5, -" + n + ")", b.term(5, -n), want[n - 1]);
        b.two(5, 4, -2, 3, 5);
        String[] other = {"7/2", "11/2", "37/4", "63/4", "215/8", "367/8", "1253/16", "2139/16"};
        for (int n = 1; n <= 8; n++) due("term(5, -" + n + ")", b.term(5, -n), other[n - 1]);
        b.two(5, 1, -3, 0, 1);
        String[] last = {"-1/3", "-1/9", "2/27", "5/81", "-1/243"};
        for (int n = 1; n <= 5; n++) due("term(5, -" + n + ")", b.term(5, -n), last[n - 1]);
        b.two(5, 11, -10, 11, 20);
        due("10^8 + 10", b.term(5, 8), "100000010");
        due("10^9 + 10", b.term(5, 9), "1000000010");
        due("10^19 + 10", b.term(5, 19), "10000000000000000010");
        b.two(5, 11, -10, -1, -10);
        due("-10^9", b.term(5, 9), "-1000000000");
        due("-10^18", b.term(5, 18), "-1000000000000000000");
        due("-1/10^9", b.term(5, -9), "-1/1000000000");
        refuses(b, "n", ARGUMENT, () -> b.term(0, -31));
        refuses(b, "n", ARGUMENT, () -> b.term(0, 101));
        refuses(b, "n ahead of none", ARGUMENT, () -> b.term(4, -31));
        refuses(b, "none", INDEX, () -> b.term(9, 101));
        refuses(b, "no name", INDEX, () -> b.term(26, 0));
        refuses(b, "no name", INDEX, () -> b.term(-1, 0));
    }

    private static void termMod() {
        promise = 22;
        Backwardterms b = some();
        due("termMod(0, 100000, 999)", b.termMod(0, 100000, 999), 789);
        due("termMod(0, -1000, 999)", b.termMod(0, -1000, 999), 966);
        due("termMod(0, 0, 999)", b.termMod(0, 0, 999), 0);
        due("termMod(0, 1, 1)", b.termMod(0, 1, 1), 0);
        due("termMod(0, 10, 7)", b.termMod(0, 10, 7), 6);
        due("termMod(0, -2, 7)", b.termMod(0, -2, 7), 6);
        due("termMod(2, 100000, 999)", b.termMod(2, 100000, 999), 160);
        due("termMod(2, -1000, 999)", b.termMod(2, -1000, 999), 256);
        due("termMod(2, -7, 97)", b.termMod(2, -7, 97), 72);
        due("termMod(2, 3, 4)", b.termMod(2, 3, 4), 0);
        due("termMod(2, -1, 4)", b.termMod(2, -1, 4), -9);
        due("termMod(2, -1, 1)", b.termMod(2, -1, 1), 0);
        due("termMod(3, 5, 7)", b.termMod(3, 5, 7), 0);
        due("termMod(3, -5, 6)", b.termMod(3, -5, 6), 0);
        due("termMod(4, -1, 7)", b.termMod(4, -1, 7), -1);
        due("termMod(4, -1, 1)", b.termMod(4, -1, 1), -1);
        due("termMod(4, 0, 4)", b.termMod(4, 0, 4), 1);
        due("termMod(4, 77777, 2)", b.termMod(4, 77777, 2), 1);
        b.two(5, -1, -1, -1, -2);
        due("termMod(5, 0, 5)", b.termMod(5, 0, 5), 4);
        due("termMod(5, 1, 5)", b.termMod(5, 1, 5), 3);
        due("termMod(5, 2, 5)", b.termMod(5, 2, 5), 3);
        due("termMod(5, -1, 5)", b.termMod(5, -1, 5), 3);
        refuses(b, "n", ARGUMENT, () -> b.termMod(0, -1001, 5));
        refuses(b, "n", ARGUMENT, () -> b.termMod(0, 100001, 5));
        refuses(b, "m", ARGUMENT, () -> b.termMod(0, 1, 0));
        refuses(b, "m", ARGUMENT, () -> b.termMod(0, 1, 1000));
        refuses(b, "m", ARGUMENT, () -> b.termMod(4, -1, -5));
        refuses(b, "none", INDEX, () -> b.termMod(9, -1001, 0));
        refuses(b, "no name", INDEX, () -> b.termMod(26, 0, 1));
    }

    private static void sum() {
        promise = 23;
        Backwardterms b = some();
        due("sum(0, 1, 0)", b.sum(0, 1, 0), "0");
        due("sum(1, 1, 1)", b.sum(1, 1, 1), "2");
        due("sum(0, 2, 5)", b.sum(0, 2, 5), "33");
        due("sum(0, 9, 12)", b.sum(0, 9, 12), "221841457190198931988");
        due("sum(2, 1, 12)", b.sum(2, 1, 12), "4095");
        due("sum(3, 3, 3)", b.sum(3, 3, 3), "0");
        due("sum(4, 5, 4)", b.sum(4, 5, 4), "14");
        b.two(5, 1, 1, -99, 0);
        due("sum(5, 1, 4)", b.sum(5, 1, 4), "-297");
        refuses(b, "step", ARGUMENT, () -> b.sum(0, 0, 1));
        refuses(b, "step", ARGUMENT, () -> b.sum(0, 10, 1));
        refuses(b, "many", ARGUMENT, () -> b.sum(0, 1, -1));
        refuses(b, "many", ARGUMENT, () -> b.sum(0, 1, 13));
        refuses(b, "none", INDEX, () -> b.sum(9, 0, 0));
        refuses(b, "no name", INDEX, () -> b.sum(26, 1, 1));
    }

    private static void fraction() {
        promise = 24;
        Backwardterms b = some();
        due("fraction(0)", b.fraction(0), "0 1 / 1 -1 -1");
        due("fraction(1)", b.fraction(1), "2 -1 / 1 -1 -1");
        due("fraction(2)", b.fraction(2), "1 / 1 -2");
        due("fraction(3)", b.fraction(3), "0 / 1");
        due("fraction(4)", b.fraction(4), "5 -2 / 1 -1 0");
        b.two(5, 3, -2, 4, 4);
        due("fraction(5)", b.fraction(5), "4 / 1 -1");
        b.two(5, 7, 9, 0, 0);
        due("fraction(5)", b.fraction(5), "0 / 1");
        b.combine(5, 0, 0, 3);
        due("fraction(5)", b.fraction(5), "0 0 1 0 / 1 -2 -1 2 1");
        refuses(b, "none", INDEX, () -> b.fraction(9));
        refuses(b, "no name", INDEX, () -> b.fraction(26));
        refuses(b, "no name", INDEX, () -> b.fraction(-1));
    }

    private static void turns(Backwardterms b, int name, int m, int tail, int period) {
        due("period(" + name + ", " + m + ", true)", b.period(name, m, true), tail);
        due("period(" + name + ", " + m + ", false)", b.period(name, m, false), period);
    }

    private static void period() {
        promise = 25;
        Backwardterms b = some();
        turns(b, 0, 1, 0, 1);
        turns(b, 0, 2, 0, 3);
        turns(b, 0, 10, 0, 60);
        turns(b, 0, 20, 0, 60);
        turns(b, 1, 5, 0, 4);
        turns(b, 2, 8, 3, 1);
        turns(b, 2, 12, 2, 2);
        turns(b, 3, 20, 0, 1);
        turns(b, 4, 2, 0, 1);
        turns(b, 4, 3, 1, 1);
        // asked for by another number, and after another change, it is not what was told before
        turns(b, 0, 3, 0, 8);
        b.two(0, 1, 0, 1, 1);
        turns(b, 0, 3, 0, 1);
        tell(b, 5, 4, 8, 4, 0, 1, 9, 2, 4, 8);
        turns(b, 5, 11, 0, 976);
        tell(b, 5, 4, 11, 10, 6, 4, 11, 5, 1, 0);
        turns(b, 5, 13, -1, -1);
        // the first ROW that is like one ahead of it is 1000
        put(b, -1, -1, 2, 1, 1, 4, 9, 3, 0, -4, -10, 0, -10);
        due("read", b.read(6, 4), 8);
        turns(b, 6, 20, 6, 994);
        // here it would be 1001
        put(b, 0, 0, -1, 2, 1, -1, 1, 3, -6, -5, 0, -6, 0, -10);
        due("read", b.read(6, 6), 7);
        turns(b, 6, 20, -1, -1);
        refuses(b, "m", ARGUMENT, () -> b.period(0, 0, true));
        refuses(b, "m", ARGUMENT, () -> b.period(0, 21, false));
        refuses(b, "m", ARGUMENT, () -> b.period(0, Integer.MIN_VALUE, false));
        refuses(b, "none", INDEX, () -> b.period(9, 0, true));
        refuses(b, "no name", INDEX, () -> b.period(26, 1, true));
    }

    private static void divided() {
        promise = 26;
        Backwardterms b = some();
        due("divided(0, 7)", b.divided(0, 7), 0);
        due("divided(1, 7)", b.divided(1, 7), 4);
        due("divided(1, 5)", b.divided(1, 5), -1);
        due("divided(1, 1)", b.divided(1, 1), 0);
        due("divided(2, 512)", b.divided(2, 512), 9);
        due("divided(2, 3)", b.divided(2, 3), -1);
        due("divided(3, 999)", b.divided(3, 999), 0);
        due("divided(4, 3)", b.divided(4, 3), 1);
        b.two(5, 2, -1, 2, 3);
        due("divided(5, 999)", b.divided(5, 999), 997);
        b.two(5, -3, 1, 5, -2);
        due("divided(5, 676)", b.divided(5, 676), 1000);
        // a(1001) is the first one that 778 divides
        b.two(5, 9, -3, 5, 1);
        due("divided(5, 778)", b.divided(5, 778), -1);
        refuses(b, "m", ARGUMENT, () -> b.divided(0, 0));
        refuses(b, "m", ARGUMENT, () -> b.divided(0, 1000));
        refuses(b, "none", INDEX, () -> b.divided(9, 0));
        refuses(b, "no name", INDEX, () -> b.divided(26, 1));
    }

    /** "a" and "b" of the ORDER 2, "c" of 1, "d" of 0; "f" 2 "a"; "g" their product; "h" of the ORDER 4. */
    private static Backwardterms forIdentities() {
        Backwardterms b = some();
        b.derive(5, 0, 4, 2);
        b.combine(6, 0, 1, 2);
        b.combine(7, 0, 1, 3);
        return b;
    }

    private static void enough() {
        promise = 27;
        Backwardterms b = forIdentities();
        due("kind 0", b.enough(0, 0, 2, 9), 3);
        due("kind 1", b.enough(1, 0, 1, 7), 8);
        due("kind 2", b.enough(2, 7, 1, 2), 9);
        due("kind 3", b.enough(3, 7, 1, 2), 7);
        due("kind 4", b.enough(4, 0, 1, -1), 4);
        due("kind 5", b.enough(5, 2, 7, 26), 5);
        due("kind 2 with the ORDER 0", b.enough(2, 3, 7, 0), 2);
        due("kind 0 of nothing", b.enough(0, 3, 3, 3), 0);
        b.two(8, 7, 9, 0, 0);
        due("as it is, not as it could be", b.enough(0, 8, 8, 8), 4);
        refusedIdentities(b, true);
    }

    private static void refusedIdentities(Backwardterms b, boolean isEnough) {
        int[][] none = {{0, 19, 0, 0}, {0, 0, 19, 0}, {1, 0, 0, 19}, {2, 0, 0, 19}, {3, 0, 0, 26}, {3, 0, 0, -1}, {5, -1, 0, 0},
            {4, 0, 26, 0}, {6, 19, 0, 0}, {-1, 0, 19, 0}};
        for (int[] o : none) {
            refuses(b, "kind " + o[0] + " of none", INDEX, () -> identity(b, isEnough, o[0], o[1], o[2], o[3]));
        }
        for (int kind : new int[] {6, -1, Integer.MAX_VALUE}) {
            refuses(b, "kind " + kind, ARGUMENT, () -> identity(b, isEnough, kind, 0, 0, 19));
        }
    }

    private static int identity(Backwardterms b, boolean isEnough, int kind, int x, int y, int z) {
        return isEnough ? b.enough(kind, x, y, z) : b.fails(kind, x, y, z);
    }

    private static void fails() {
        promise = 28;
        Backwardterms b = forIdentities();
        due("a is a", b.fails(0, 0, 0, 9), -1);
        due("a is b", b.fails(0, 0, 1, 9), 0);
        due("nothing is nothing", b.fails(0, 3, 3, 26), -1);
        b.two(8, 1, 0, 0, 1);
        due("0 1 1 2 is 0 1 1 1", b.fails(0, 0, 8, 0), 3);
        b.derive(9, 0, 5, 4);
        b.derive(10, 8, 5, 4);
        due("0 .. 1 .. 1 .. 2 is 0 .. 1 .. 1 .. 1", b.fails(0, 9, 10, 0), 12);
        due("a + a is f", b.fails(1, 0, 0, 5), -1);
        due("a + d is a", b.fails(1, 0, 3, 0), -1);
        due("a + a is a", b.fails(1, 0, 0, 0), 1);
        due("a + b is f", b.fails(1, 0, 1, 5), 0);
        due("a * b is g", b.fails(2, 0, 1, 6), -1);
        due("b * a is g", b.fails(2, 1, 0, 6), -1);
        due("a * a is a", b.fails(2, 0, 0, 0), 3);
        due("a with b is h", b.fails(3, 0, 1, 7), -1);
        due("b with a is h", b.fails(3, 1, 0, 7), -1);
        due("a with a is h", b.fails(3, 0, 0, 7), 1);
        due("a with c is a", b.fails(3, 0, 2, 0), 2);
        b.two(11, 1, 1, 1, 0);
        due("steps of a are 1 0 1 1", b.fails(4, 0, 11, 9), -1);
        due("steps of a are a", b.fails(4, 0, 0, 9), 0);
        due("steps of c are c", b.fails(4, 2, 2, 9), -1);
        b.derive(12, 0, 2, 2);
        due("each other one of a", b.fails(5, 0, 12, 9), -1);
        due("each other one of a is a", b.fails(5, 0, 0, 9), 2);
        due("each other one of d is d", b.fails(5, 3, 3, 9), -1);
        b.combine(13, 7, 7, 0);
        b.derive(14, 7, 4, 2);
        due("h + h", b.fails(1, 7, 7, 13), -1);
        due("h + h is 2h", b.fails(0, 13, 14, 0), -1);
        refusedIdentities(b, false);
    }

    // ---- asked of the desk, of winding, of powers

    private static void desk() {
        promise = 29;
        Backwardterms b = withDesk(5, -99, 99);
        due("desk(0)", b.desk(0), 5);
        due("desk(1)", b.desk(1), -99);
        due("desk(2)", b.desk(2), 99);
        for (int place : new int[] {3, 16, -1, Integer.MAX_VALUE, Integer.MIN_VALUE}) {
            refuses(b, "desk(" + place + ")", INDEX, () -> b.desk(place));
        }
    }

    private static void finds(int order, int isSure, int more, int... numbers) {
        Backwardterms b = withDesk(numbers);
        due("found(0) of " + numbers.length, b.found(0), order);
        due("found(1) of " + numbers.length, b.found(1), isSure);
        due("found(2) of " + numbers.length, b.found(2), more);
    }

    private static void found() {
        promise = 30;
        finds(0, 1, 0);
        finds(0, 1, 0, 0, 0, 0);
        finds(1, 0, 1, 7);
        finds(1, 1, 0, 7, 7);
        finds(2, 0, 2, 0, 1);
        finds(3, 0, 3, 0, 0, 1);
        finds(2, 1, 0, 5, 3, 3, 3);
        finds(2, 0, 1, 2, 3, 5);
        finds(3, 1, 0, 1, 2, 4, 7, 11, 16);
        finds(4, 0, 2, 1, 1, 2, 3, 5, 9);
        finds(5, 0, 3, 3, 5, 8, 13, 21, 34, 56);
        finds(16, 0, 16, 0, 0, 0, 0, 0, 0, 0, 0, 0, 0, 0, 0, 0, 0, 0, 99);
        finds(8, 1, 0, 1, 4, 9, 16, 26, 30, 99, -5, 7, 3, 2, 8, 4, 1, 6, 50);
        Backwardterms b = withDesk(1, 1);
        due("found(0)", b.found(0), 1);
        b.lay(1, 2, 0, 0, 0, 0);
        due("found(0) after one more", b.found(0), 2);
        refuses(b, "what", ARGUMENT, () -> b.found(3));
        refuses(b, "what", ARGUMENT, () -> b.found(-1));
    }

    private static void foundFactor() {
        promise = 31;
        Backwardterms b = withDesk(5, 3, 3, 3);
        due("f(1)", b.foundFactor(1), "1");
        due("f(2)", b.foundFactor(2), "0");
        refuses(b, "f(3)", ARGUMENT, () -> b.foundFactor(3));
        refuses(b, "f(0)", ARGUMENT, () -> b.foundFactor(0));
        refuses(b, "f(-1)", ARGUMENT, () -> b.foundFactor(-1));
        put(b, 4, -6);
        due("-3/2", b.foundFactor(1), "-3/2");
        put(b, 1, 1, 2, 2, 1, 3, 1);
        for (int k = 1; k <= 4; k++) due("unsure", b.foundFactor(k), "unsure");
        refuses(b, "f(5)", ARGUMENT, () -> b.foundFactor(5));
        put(b, 1, 4, 9, 16, 26, 30, 99, -5, 7, 3, 2, 8, 4, 1, 6, 50);
        String[] want = {"966959707053537/101863157019016", "2554167197319/3285908290936",
            "-235519769565311/509315785095080", "-9049309520211/50931578509508", "9311729330821/50931578509508",
            "-287156930740459/509315785095080", "-233531627833297/509315785095080", "-7416713575921/509315785095080"};
        for (int k = 1; k <= 8; k++) due("f(" + k + ")", b.foundFactor(k), want[k - 1]);
        b.sweep();
        refuses(b, "f(1) of none", ARGUMENT, () -> b.foundFactor(1));
        put(b, 0, 0, 0, 0, 0, 0, 0, 0, 0, 0, 0, 0, 0, 0, 0, 1);
        due("f(16)", b.foundFactor(16), "unsure");
        refuses(b, "f(17)", ARGUMENT, () -> b.foundFactor(17));
    }

    private static void foundByAll(Backwardterms b, int prime, int... want) {
        due("foundBy(" + prime + ", 0)", b.foundBy(prime, 0), want.length);
        for (int k = 1; k <= want.length; k++) due("foundBy(" + prime + ", " + k + ")", b.foundBy(prime, k), want[k - 1]);
        refuses(b, "k", ARGUMENT, () -> b.foundBy(prime, want.length + 1));
    }

    private static void foundBy() {
        promise = 32;
        Backwardterms b = withDesk(2, 3, 5, 7, 11, 13);
        foundByAll(b, 2, 1, 0);
        foundByAll(b, 3, 2, 0, 0);
        foundByAll(b, 5, 2, 3, 4);
        foundByAll(b, 97, 2, 3, 91);
        put(b, 0, 1, 1, 2, 3, 5, 8);
        foundByAll(b, 2, 1, 1);
        foundByAll(b, 97, 1, 1);
        put(b, -1, -2, -4, -8);
        foundByAll(b, 3, 2);
        foundByAll(b, 2, 0);
        put(b, 0, 0, 1);
        foundByAll(b, 5, -7, -7, -7);
        put(b, 6, 12, -6);
        foundByAll(b, 2);
        foundByAll(b, 3);
        foundByAll(b, 5, 2);
        b.sweep();
        foundByAll(b, 7);
        int primes = 0;
        for (int p = 2; p <= 97; p++) {
            int n = p;
            try {
                due("foundBy(" + p + ", 0)", b.foundBy(n, 0), 0);
                primes++;
            } catch (IllegalArgumentException e) {
                due(p + " is no prime", isPrime(p), false);
            }
        }
        due("primes to 97", primes, 25);
        for (int no : new int[] {0, 1, -2, -3, 98, 99, 101, 103, Integer.MAX_VALUE, Integer.MIN_VALUE}) {
            refuses(b, "by " + no, ARGUMENT, () -> b.foundBy(no, 0));
        }
        refuses(b, "k", ARGUMENT, () -> b.foundBy(2, -1));
    }

    private static boolean isPrime(int p) {
        for (int i = 2; i < p; i++) if (p % i == 0) return false;
        return p > 1;
    }

    private static void difference() {
        promise = 33;
        Backwardterms b = withDesk(-27, -26, -19, 0, 37, 98);
        int[][] want = {{-27, -26, -19, 0, 37, 98}, {1, 7, 19, 37, 61}, {6, 12, 18, 24}, {6, 6, 6}, {0, 0}, {0}};
        for (int row = 0; row < want.length; row++) {
            for (int place = 0; place < want[row].length; place++) {
                due("difference(" + row + ", " + place + ")", b.difference(row, place), want[row][place]);
            }
            int no = row;
            refuses(b, "behind row " + row, INDEX, () -> b.difference(no, want[no].length));
        }
        refuses(b, "row 6", INDEX, () -> b.difference(6, 0));
        refuses(b, "row -1", INDEX, () -> b.difference(-1, 0));
        refuses(b, "place -1", INDEX, () -> b.difference(0, -1));
        refuses(b, "far off", INDEX, () -> b.difference(Integer.MAX_VALUE, Integer.MAX_VALUE));
        refuses(b, "far off", INDEX, () -> b.difference(Integer.MIN_VALUE, Integer.MIN_VALUE));
        put(b, 99, -99, 99, -99, 99, -99, 99, -99, 99, -99, 99, -99, 99, -99, 99, -99);
        due("difference(15, 0)", b.difference(15, 0), -99 * 32768);
        b.sweep();
        refuses(b, "of none", INDEX, () -> b.difference(0, 0));
    }

    private static void degree() {
        promise = 34;
        int[][] desks = {{}, {0}, {0, 0, 0}, {5}, {5, 5, 5}, {5, 5, 6}, {0, 1, 4, 9}, {1, 2, 4, 8, 16}, {0, 0, 0, 0, 1},
            {3, 2, 1, 0, -1}, {0, 0, 0, 0, 0, 0, 0, 0, 0, 0, 0, 0, 0, 0, 0, 1}};
        int[] want = {-1, -1, -1, 0, 0, 2, 2, 4, 4, 1, 15};
        for (int i = 0; i < desks.length; i++) due("degree() of desk " + i, withDesk(desks[i]).degree(), want[i]);
    }

    private static void value() {
        promise = 35;
        Backwardterms b = withDesk(1, 2, 4, 8, 16);
        String[] want = {"1", "2", "4", "8", "16", "31", "57", "99"};
        for (int n = 0; n < want.length; n++) due("value(" + n + ")", b.value(n), want[n]);
        due("value(-1)", b.value(-1), "1");
        due("value(-50)", b.value(-50), "271951");
        due("value(100)", b.value(100), "4087976");
        put(b, 99, -99, 99, -99, 99, -99, 99, -99, 99, -99, 99, -99, 99, -99, 99, -99);
        due("value(-50)", b.value(-50), "585648414790483968099");
        due("value(100)", b.value(100), "-755533989566375156121501");
        due("value(15)", b.value(15), "-99");
        b.sweep();
        due("value(9) of none", b.value(9), "0");
        put(b, -7);
        due("value(-50) of one", b.value(-50), "-7");
        refuses(b, "n", ARGUMENT, () -> b.value(-51));
        refuses(b, "n", ARGUMENT, () -> b.value(101));
    }

    private static void winds(int[] numbers, int last, String at, String... want) {
        Backwardterms b = withDesk(numbers);
        int many = b.wind();
        for (int n = 0; n < want.length; n++) due("wound(" + n + ")", b.wound(n), want[n]);
        due("wound(" + last + ")", b.wound(last), at);
        due("the last one", many - 1, last);
        for (int n = many; n <= 40; n++) due("wound(" + n + ")", b.wound(n), "none");
    }

    private static void wound() {
        promise = 36;
        winds(new int[] {0, 1, -1, 2, 1, -1, 1, 3}, 40, "2321038901969413/242860520775600",
            "1", "3", "4", "14/3", "31/6", "167/30", "59/10", "433/70");
        winds(new int[] {1, 1, -2, 4, 0, 0, 1, 1}, 40, "2622127042276492108820", "1", "1", "2", "5", "14", "42", "132", "429");
        winds(new int[] {-5, 1, 1, 0, 0, 1, 2, 3}, 4, "38/3", "2", "3", "-7/3", "-10/3", "38/3");
        winds(new int[] {7, 0, 0, 0, 0, 2, -3, 4}, 40, "-163775757993661022947246080000/1628413597910449",
            "-3", "4", "-12/7", "24/7", "-96/49", "240/49", "-1152/343", "480/49");
        winds(new int[] {0, 0, 1, 1, 1, 1, -99, 0}, 1, "0", "-99", "0");
        winds(new int[] {2, 0, 1, 0, 1, 0, 1, 1}, 40, "1", "1", "1", "1");
        winds(new int[] {2, 1, 0, 0, 0, 0, 5, 6}, 40, "0", "5", "6", "0", "0");
        Backwardterms b = new Backwardterms();
        due("not told", b.wound(0), "none");
        due("not told", b.wound(40), "none");
        refuses(b, "n", ARGUMENT, () -> b.wound(-1));
        refuses(b, "n", ARGUMENT, () -> b.wound(41));
    }

    private static void woundSum() {
        promise = 37;
        Backwardterms b = new Backwardterms();
        due("not told", b.woundSum(0), "0");
        due("not told", b.woundSum(1), "none");
        put(b, 0, 1, -1, 2, 1, -1, 1, 3);
        b.wind();
        due("woundSum(0)", b.woundSum(0), "0");
        due("woundSum(1)", b.woundSum(1), "1");
        due("woundSum(2)", b.woundSum(2), "4");
        due("woundSum(5)", b.woundSum(5), "107/6");
        due("woundSum(41)", b.woundSum(41), "75733753318697933/242860520775600");
        put(b, -5, 1, 1, 0, 0, 1, 2, 3);
        b.wind();
        due("woundSum(2)", b.woundSum(2), "5");
        due("woundSum(3)", b.woundSum(3), "8/3");
        due("woundSum(5)", b.woundSum(5), "12");
        due("woundSum(6)", b.woundSum(6), "none");
        due("woundSum(41)", b.woundSum(41), "none");
        b.undo();
        due("undone", b.woundSum(5), "107/6");
        refuses(b, "many", ARGUMENT, () -> b.woundSum(-1));
        refuses(b, "many", ARGUMENT, () -> b.woundSum(42));
    }

    private static void powers() {
        promise = 38;
        Backwardterms b = new Backwardterms();
        due("powers(0, 999)", b.powers(0, 999), "999");
        due("powers(1, 100)", b.powers(1, 100), "5050");
        due("powers(3, 99)", b.powers(3, 99), "24502500");
        due("powers(5, 7)", b.powers(5, 7), "29008");
        due("powers(9, 999)", b.powers(9, 999), "99500749999300000499999850000");
        for (int exponent = 0; exponent <= 9; exponent++) {
            due("powers(" + exponent + ", 0)", b.powers(exponent, 0), "0");
            due("powers(" + exponent + ", 1)", b.powers(exponent, 1), "1");
            due("powers(" + exponent + ", 2)", b.powers(exponent, 2), Integer.toString(1 + (1 << exponent)));
        }
        refuses(b, "exponent", ARGUMENT, () -> b.powers(-1, 1));
        refuses(b, "exponent", ARGUMENT, () -> b.powers(10, 1));
        refuses(b, "n", ARGUMENT, () -> b.powers(1, -1));
        refuses(b, "n", ARGUMENT, () -> b.powers(1, 1000));
    }

    private static void books() {
        promise = 39;
        Backwardterms b = some();
        b.lay(3, 1, 2, 3, 0, 0);
        b.knock();
        int[] want = {3, 5, 5, 0, 1};
        for (int what = 0; what <= 4; what++) due("books(" + what + ")", b.books(what), want[what]);
        put(b, -9, 1, 1, 1, 1, 1, 1, 1);
        b.wind();
        b.drop(0);
        want = new int[] {8, 4, 7, 9, 1};
        for (int what = 0; what <= 4; what++) due("books(" + what + ")", b.books(what), want[what]);
        refuses(b, "what", ARGUMENT, () -> b.books(5));
        refuses(b, "what", ARGUMENT, () -> b.books(-1));
    }

    // ---- all of it

    private static void isSound() {
        promise = 40;
        due("isSound() of nothing", new Backwardterms().isSound(), true);
        Backwardterms b = forIdentities();
        due("isSound()", b.isSound(), true);
        b.two(25, 99, -99, 99, -99);
        b.two(24, 7, 9, 0, 0);
        tell(b, 23, 4, 99, 99, 99, 99, -99, 99, -99, 99);
        tell(b, 22, 4, 0, 0, 0, 0, 1, 2, 3, 4);
        tell(b, 21, 4, 99, -99, 99, -99, 99, 99, 99, 99);
        tell(b, 20, 1, 0, 5);
        due("isSound()", b.isSound(), true);
        due("isSound() again", b.isSound(), true);
    }

    private static void digest() {
        promise = 41;
        Backwardterms b = new Backwardterms();
        due("digest() of nothing", b.digest(), digestOf(b));
        put(b, 3, -99, 0, 1, 5, 7, 99, 2, 1);
        due("digest() of a desk", b.digest(), digestOf(b));
        b.wind();
        b.knock();
        due("digest() with winding", b.digest(), digestOf(b));
        b.two(3, 1, 2, 4, 8);
        b.two(17, 99, -98, 4, -8);
        due("digest() of two", b.digest(), digestOf(b));
        Backwardterms c = forIdentities();
        due("digest() of some", c.digest(), digestOf(c));
        c.drop(0);
        due("digest() after a drop", c.digest(), digestOf(c));
        due("digest() changes nothing", c.digest(), digestOf(c));
    }

    /** As the document tells it, by the other calls. */
    private static long digestOf(Backwardterms b) {
        long d = 5606;
        for (int what = 0; what <= 4; what++) d = d * 31 + b.books(what);
        for (int i = 0; i < b.books(0); i++) d = d * 31 + b.desk(i);
        for (int what = 0; what <= 2; what++) d = d * 31 + b.found(what);
        d = d * 31 + b.foundBy(2, 0);
        d = d * 31 + b.foundBy(7, 0);
        d = d * 31 + b.degree();
        d = d * 31 + b.value(20).length();
        String names = b.names();
        for (int i = 0; i < names.length(); i++) {
            int name = names.charAt(i) - 'a';
            d = d * 31 + name;
            for (int what = 0; what <= 4; what++) d = d * 31 + b.ofSequence(name, what);
            String[] texts = {b.text(name), b.fraction(name), b.term(name, 30), b.term(name, -5), b.sum(name, 2, 5)};
            for (String s : texts) d = d * 31 + s.length();
            d = d * 31 + b.termMod(name, 1000, 97);
            d = d * 31 + b.termMod(name, -7, 97);
            d = d * 31 + b.period(name, 6, false);
            d = d * 31 + b.period(name, 6, true);
            d = d * 31 + b.divided(name, 7);
            d = d * 31 + b.fails(0, name, names.charAt(0) - 'a', 0);
        }
        d = d * 31 + b.wound(9).length();
        d = d * 31 + b.woundSum(9).length();
        return d * 31 + (b.isSound() ? 1 : 0);
    }
}
