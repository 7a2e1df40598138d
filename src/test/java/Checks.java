import java.util.function.Function;
import java.util.function.Supplier;

/** What the tests of single sentences are written with: each sentence of the document by its words, then what it asks. */
final class Checks {
    static final String ARGUMENT = "throws.IllegalArgumentException";
    static final String STATE = "throws.IllegalStateException";
    static final String INDEX = "throws.IndexOutOfBoundsException";

    private static String sentence = "";
    private static int sentences;
    private static int asked;
    private static int askedBefore;
    private static int wrong;

    private Checks() {
    }

    /** What follows is asked for by this sentence. */
    static void sentence(String words) {
        closeSentence();
        sentence = words;
        sentences++;
    }

    private static void closeSentence() {
        if (sentences > 0 && asked == askedBefore) {
            wrong++;
            System.out.println(sentence + ": nothing was asked");
        }
        askedBefore = asked;
    }

    static void end(String test) {
        closeSentence();
        System.out.println(test + ": " + sentences + " sentences, " + asked + " answers, " + wrong + " wrong");
        if (wrong > 0) System.exit(1);
    }

    static void due(String call, Object got, Object want) {
        asked++;
        if (want.equals(got)) return;
        wrong++;
        System.out.println(sentence + ": " + call + " answered " + got + ", due is " + want);
    }

    /** What a call answers, or which exception it throws. */
    static Object answer(Supplier<Object> doing) {
        try {
            return doing.get();
        } catch (RuntimeException e) {
            return "throws." + e.getClass().getSimpleName();
        }
    }

    static void throwsJust(String call, String want, Supplier<Object> doing) {
        due(call, answer(doing), want);
    }

    /** On a new object the call answers (or throws) that, and it is then like one on which it was not made. */
    static void nothing(String call, Supplier<Backwardterms> maker, Object want, Function<Backwardterms, Object> doing) {
        Backwardterms b = maker.get();
        due(call, answer(() -> doing.apply(b)), want);
        due("all is as before " + call + ": that", all(b).equals(all(maker.get())), true);
    }

    /** All that can be seen of the object now, and what each undoing brings back. Undoes all that can be undone. */
    static String all(Backwardterms b) {
        StringBuilder s = new StringBuilder(seen(b));
        for (int i = 0; i < 20 && b.books(2) > 0; i++) s.append(" | ").append(b.undo()).append(' ').append(seen(b));
        return s.toString();
    }

    /** The digest has all numbers of the desk, and all books. */
    private static String seen(Backwardterms b) {
        return held(b) + b.digest();
    }

    /** The SEQUENCES and WINDING. */
    static String held(Backwardterms b) {
        StringBuilder s = new StringBuilder();
        String names = b.names();
        for (int i = 0; i < names.length(); i++) {
            s.append(names.charAt(i)).append('=').append(b.text(names.charAt(i) - 'a')).append(' ');
        }
        return s.append(b.books(3)).append(' ').append(b.wound(5)).append(' ').append(b.woundSum(4)).append(' ').toString();
    }

    // ---- objects

    /** Sweeps the desk, then lays these numbers. */
    static void put(Backwardterms b, int... numbers) {
        b.sweep();
        for (int n : numbers) b.lay(1, n, 0, 0, 0, 0);
    }

    static Backwardterms withDesk(int... numbers) {
        Backwardterms b = new Backwardterms();
        put(b, numbers);
        return b;
    }

    /** Numbers of the desk are the FACTORS, then the FIRST TERMS. */
    static void tell(Backwardterms b, int name, int order, int... numbers) {
        put(b, numbers);
        b.tell(name, order);
    }

    /**
     * SEQUENCES of the ORDERS 0 to 8, WINDING told twice, 12 CHANGES (10 can be undone), two KNOCKS; then the desk:
     * "a" 0 1 1 2, "b" 2 1 3 4, "c" 1 2 4 8, "d" of the ORDER 0, "e" of the ORDER 4, "f" of 3, "g" of 4 (all 0),
     * "h" of 7, "i" of 8, "z" 5 3 3 3 (it does not GO BACK).
     */
    static Backwardterms busy(int... desk) {
        Backwardterms b = new Backwardterms();
        b.two(0, 1, 1, 0, 1);
        b.two(1, 1, 1, 2, 1);
        tell(b, 2, 1, 2, 1);
        tell(b, 3, 0);
        tell(b, 4, 4, 1, 1, 0, 1, 0, 1, 1, 2);
        tell(b, 5, 3, 1, 1, 1, 0, 0, 1);
        tell(b, 6, 4, 0, 0, 0, 0, 0, 0, 0, 0);
        put(b, 2, 0, 3, 0, 0, 0, 1, 5);
        b.wind();
        put(b, 1, 1, 0, 0, 0, 0, 0, 0, -1);
        b.read(7, 1);
        put(b, 1, 1, 0, 0, 0, 0, 0, 0, 0, -1);
        b.read(8, 1);
        b.two(25, 1, 0, 5, 3);
        put(b, 0, 1, -1, 2, 1, -1, 1, 2);
        b.wind();
        b.knock();
        b.knock();
        put(b, desk);
        return b;
    }
}
