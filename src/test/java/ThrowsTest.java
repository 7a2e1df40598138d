import java.lang.reflect.InvocationTargetException;
import java.lang.reflect.Method;
import java.util.function.Supplier;

/**
 * The "Throws" lines of the promises: of each number that a call is given the least and the greatest that is taken,
 * and the ones just outside; desks that are too short or full by one; and, where several exceptions apply, which one
 * is thrown. After each call that throws all is as before, and so is what undoing brings back.
 */
public final class ThrowsTest {
    private static final int[] ELEVEN = {1, -2, 3, 0, 1, 1, 2, 3, 5, 8, 99};

    private static Supplier<Backwardterms> maker = () -> Checks.busy(ELEVEN);

    public static void main(String[] args) {
        limitsOfTheDesk();
        limitsOfWhatIsTold();
        limitsOfWhatIsMade();
        limitsOfSets();
        limitsOfDerivers();
        limitsOfSequences();
        limitsOfTerms();
        limitsOfIdentities();
        limitsOfWhatIsFound();
        limitsOfNumbers();
        noSuchSequence();
        fullDesks();
        shortDesks();
        emptyDesk();
        nothingToUndo();
        bounds();
        orderOfLaying();
        orderOfTelling();
        orderOfMaking();
        orderOfMakingFromTheDesk();
        orderOfAsking();
        orderOfIdentities();
        exceptionsAheadOfNothing();
        Checks.end("ThrowsTest");
    }

    // ---- what it is written with

    private static Object call(Backwardterms b, String name, Object... args) {
        for (Method m : Backwardterms.class.getDeclaredMethods()) {
            if (!m.getName().equals(name)) continue;
            try {
                return m.invoke(b, args);
            } catch (InvocationTargetException e) {
                return "throws." + e.getCause().getClass().getSimpleName();
            } catch (IllegalAccessException e) {
                throw new AssertionError(e);
            }
        }
        throw new AssertionError(name);
    }

    /** The argument is taken from least to greatest; the ones just outside, and those far off, throw. */
    private static void limit(String promise, String name, int at, int least, int greatest, String thrown, Object... args) {
        Checks.sentence(promise + ", " + thrown + ", argument " + at + " not " + least + " to " + greatest);
        if (least <= greatest) {
            taken(name, at, least, args);
            taken(name, at, greatest, args);
        }
        refused(name, at, least - 1, thrown, args);
        refused(name, at, greatest + 1, thrown, args);
        refused(name, at, Integer.MIN_VALUE, thrown, args);
        refused(name, at, Integer.MAX_VALUE, thrown, args);
    }

    private static Object[] with(Object[] args, int at, int value) {
        Object[] all = args.clone();
        all[at] = value;
        return all;
    }

    private static String told(String name, Object[] args) {
        StringBuilder s = new StringBuilder(name).append('(');
        for (int i = 0; i < args.length; i++) s.append(i == 0 ? "" : ", ").append(args[i]);
        return s.append(')').toString();
    }

    private static void taken(String name, int at, int value, Object[] args) {
        Object[] all = with(args, at, value);
        Object got = call(maker.get(), name, all);
        Checks.due(told(name, all) + " throws, answering " + got, got.toString().startsWith("throws."), false);
    }

    private static void refused(String name, int at, int value, String thrown, Object[] args) {
        throwsThen(name, thrown, with(args, at, value));
    }

    private static void throwsThen(String name, String thrown, Object... args) {
        Checks.nothing(told(name, args), maker, thrown, b -> call(b, name, args));
    }

    private static void answers(String name, Object want, Object... args) {
        Checks.due(told(name, args), call(maker.get(), name, args), want);
    }

    // ---- the least and the greatest

    private static void limitsOfTheDesk() {
        maker = () -> Checks.busy(ELEVEN);
        limit("promise 2", "lay", 0, 1, 5, Checks.ARGUMENT, 1, 0, 0, 0, 0, 0);
        for (int at = 1; at <= 5; at++) {
            for (int many = at; many <= 5; many++) {
                limit("promise 2", "lay", at, -99, 99, Checks.ARGUMENT, many, 0, 0, 0, 0, 0);
            }
        }
        Checks.sentence("promise 2, one of the first many of the others: those behind them do not matter");
        int[] off = {100, -100, Integer.MAX_VALUE, Integer.MIN_VALUE};
        for (int many = 1; many <= 4; many++) {
            for (int at = many + 1; at <= 5; at++) {
                for (int o : off) {
                    answers("lay", 11 + many, with(new Object[] {many, 0, 0, 0, 0, 0}, at, o));
                }
            }
        }
        for (int count = 1; count <= 16; count++) {
            int[] numbers = new int[count];
            maker = () -> Checks.withDesk(numbers);
            limit("promise 29", "desk", 0, 0, count - 1, Checks.INDEX, 0);
            limit("promise 33", "difference", 0, 0, count - 1, Checks.INDEX, 0, 0);
            for (int place = count; place <= 17; place++) {
                refused("desk", 0, place, Checks.INDEX, new Object[] {0});
                refused("difference", 0, place, Checks.INDEX, new Object[] {0, 0});
                refused("difference", 1, place, Checks.INDEX, new Object[] {0, 0});
            }
            for (int row = 0; row < count; row++) {
                limit("promise 33", "difference", 1, 0, count - 1 - row, Checks.INDEX, row, 0);
            }
        }
        maker = () -> Checks.busy();
        limit("promise 29", "desk", 0, 0, -1, Checks.INDEX, 0);
        limit("promise 33", "difference", 0, 0, -1, Checks.INDEX, 0, 0);
        limit("promise 33", "difference", 1, 0, -1, Checks.INDEX, 0, 0);
    }

    private static void limitsOfWhatIsTold() {
        maker = () -> Checks.busy(ELEVEN);
        limit("promise 4", "two", 0, 0, 25, Checks.ARGUMENT, 0, 1, 1, 0, 1);
        for (int at = 1; at <= 4; at++) limit("promise 4", "two", at, -99, 99, Checks.ARGUMENT, 0, 1, 1, 0, 1);
        limit("promise 5", "tell", 0, 0, 25, Checks.ARGUMENT, 0, 4);
        limit("promise 5", "tell", 0, 0, 25, Checks.ARGUMENT, 0, 0);
        limit("promise 5", "tell", 1, 0, 4, Checks.ARGUMENT, 0, 0);
        maker = () -> Checks.busy(1, 2, 4, 8);
        limit("promise 6", "adopt", 0, 0, 25, Checks.ARGUMENT, 0);
    }

    private static void limitsOfWhatIsMade() {
        maker = () -> Checks.busy(ELEVEN);
        for (int how = 0; how <= 4; how++) limit("promise 7", "combine", 0, 0, 25, Checks.ARGUMENT, 0, 0, 2, how);
        limit("promise 7", "combine", 3, 0, 4, Checks.ARGUMENT, 10, 0, 2, 0);
        limit("promise 8", "derive", 0, 0, 25, Checks.ARGUMENT, 0, 0, 1, 0);
        limit("promise 10", "read", 0, 0, 25, Checks.ARGUMENT, 0, 4);
        Checks.sentence("promise 10, IllegalArgumentException if top is not 0 to 16");
        maker = () -> Checks.busy(0, 0, 0, 0, 0, 0, 0, 0, 1);
        answers("read", -5, 10, 0);
        answers("read", 0, 10, 8);
        // with a desk of 16 numbers at most, 16 above are always too many
        throwsThen("read", Checks.STATE, 10, 16);
        for (int off : new int[] {-1, 17, Integer.MIN_VALUE, Integer.MAX_VALUE}) throwsThen("read", Checks.ARGUMENT, 10, off);
    }

    private static void limitsOfSets() {
        maker = () -> Checks.busy(0, 0, 0, 0, 0, 0, 0, 0, 0, 0, 0, 0, 0, 0, 0, 0);
        limit("promise 9", "machine", 0, 0, 25, Checks.ARGUMENT, 0, 2, 2, 1);
        for (int letters = 1; letters <= 4; letters++) {
            limit("promise 9", "machine", 1, 1, 4, Checks.ARGUMENT, 9, 1, letters, 1);
        }
        for (int states = 1; states <= 4; states++) {
            limit("promise 9", "machine", 2, 1, 4, Checks.ARGUMENT, 9, states, 1, 1);
            limit("promise 9", "machine", 3, 0, (1 << states) - 1, Checks.ARGUMENT, 9, states, 4, 1);
        }
    }

    private static void limitsOfDerivers() {
        maker = () -> Checks.busy(ELEVEN);
        Checks.sentence("promise 8, IllegalArgumentException if how is not 0 to 6");
        for (int how : new int[] {-1, 7, Integer.MIN_VALUE, Integer.MAX_VALUE}) {
            throwsThen("derive", Checks.ARGUMENT, 10, 2, how, 0);
            throwsThen("derive", Checks.ARGUMENT, 10, 2, how, 1);
        }
        int[][] ranges = {{0, 0}, {0, 0}, {1, 6}, {0, 20}, {-9, 9}, {1, 8}, {-9, 9}};
        for (int how = 0; how <= 6; how++) {
            limit("promise 8", "derive", 3, ranges[how][0], ranges[how][1], Checks.ARGUMENT, 10, 2, how, 0);
        }
    }

    private static void limitsOfSequences() {
        maker = () -> Checks.busy(ELEVEN);
        limit("promise 18", "ofSequence", 1, 0, 4, Checks.ARGUMENT, 0, 0);
        int[] ofOrder = {3, 2, 0, 5, 4, -1, -1, 7, 8};
        for (int order = 0; order <= 8; order++) {
            if (ofOrder[order] >= 0) limit("promise 19", "factor", 1, 1, order, Checks.ARGUMENT, ofOrder[order], 1);
        }
        limit("promise 21", "term", 1, -30, 100, Checks.ARGUMENT, 0, 0);
        limit("promise 21", "term", 1, -30, 100, Checks.ARGUMENT, 25, 0);
        limit("promise 21", "term", 1, -30, 100, Checks.ARGUMENT, 3, 0);
        limit("promise 23", "sum", 1, 1, 9, Checks.ARGUMENT, 0, 1, 12);
        limit("promise 23", "sum", 1, 1, 9, Checks.ARGUMENT, 0, 1, 0);
        limit("promise 23", "sum", 2, 0, 12, Checks.ARGUMENT, 0, 9, 1);
    }

    private static void limitsOfTerms() {
        maker = () -> Checks.busy(ELEVEN);
        for (int name : new int[] {0, 2, 3, 8, 25}) {
            limit("promise 22", "termMod", 1, -1000, 100000, Checks.ARGUMENT, name, 0, 7);
            limit("promise 22", "termMod", 2, 1, 999, Checks.ARGUMENT, name, 5, 1);
            limit("promise 22", "termMod", 2, 1, 999, Checks.ARGUMENT, name, -5, 1);
            limit("promise 25", "period", 1, 1, 20, Checks.ARGUMENT, name, 1, true);
            limit("promise 25", "period", 1, 1, 20, Checks.ARGUMENT, name, 1, false);
            limit("promise 26", "divided", 1, 1, 999, Checks.ARGUMENT, name, 1);
        }
    }

    private static void limitsOfIdentities() {
        maker = () -> Checks.busy(ELEVEN);
        limit("promise 27", "enough", 0, 0, 5, Checks.ARGUMENT, 0, 0, 1, 2);
        limit("promise 28", "fails", 0, 0, 5, Checks.ARGUMENT, 0, 0, 1, 2);
        limit("promise 27", "enough", 0, 0, 5, Checks.ARGUMENT, 0, 8, 8, 8);
        limit("promise 28", "fails", 0, 0, 5, Checks.ARGUMENT, 0, 8, 8, 8);
    }

    private static void limitsOfWhatIsFound() {
        maker = () -> Checks.busy(ELEVEN);
        limit("promise 30", "found", 0, 0, 2, Checks.ARGUMENT, 0);
        int[][] desks = {{}, {0, 0}, {7}, {1, 1}, {0, 1}, {0, 1, 1, 2}, {0, 0, 1},
            {0, 0, 0, 0, 0, 0, 0, 1, 0, 0, 0, 0, 0, 0, 0, 0}, {0, 0, 0, 0, 0, 0, 0, 0, 0, 0, 0, 0, 0, 0, 0, 1}};
        int[] orders = {0, 0, 1, 1, 2, 2, 3, 8, 16};
        for (int i = 0; i < desks.length; i++) {
            int[] desk = desks[i];
            maker = () -> Checks.busy(desk);
            limit("promise 31", "foundFactor", 0, 1, orders[i], Checks.ARGUMENT, 1);
            limit("promise 32", "foundBy", 1, 0, orders[i], Checks.ARGUMENT, 2, 0);
            limit("promise 32", "foundBy", 1, 0, orders[i], Checks.ARGUMENT, 97, 0);
        }
        maker = () -> Checks.busy(2, 4);
        limit("promise 32, that ORDER by the PRIME", "foundBy", 1, 0, 0, Checks.ARGUMENT, 2, 0);
        limit("promise 32, that ORDER by the PRIME", "foundBy", 1, 0, 1, Checks.ARGUMENT, 3, 0);
        Checks.sentence("promise 32, prime is no prime of 2 to 97");
        for (int p = -3; p <= 130; p++) {
            if (isPrime(p) && p <= 97) answers("foundBy", p == 2 ? 0 : 1, p, 0);
            else throwsThen("foundBy", Checks.ARGUMENT, p, 0);
        }
        for (int p : new int[] {-97, 1009, 2147483647, -2147483647, Integer.MIN_VALUE, 1 << 16 | 1}) {
            throwsThen("foundBy", Checks.ARGUMENT, p, 0);
        }
    }

    private static boolean isPrime(int p) {
        for (int i = 2; i < p; i++) if (p % i == 0) return false;
        return p > 1;
    }

    private static void limitsOfNumbers() {
        maker = () -> Checks.busy(ELEVEN);
        limit("promise 35", "value", 0, -50, 100, Checks.ARGUMENT, 0);
        limit("promise 36", "wound", 0, 0, 40, Checks.ARGUMENT, 0);
        limit("promise 37", "woundSum", 0, 0, 41, Checks.ARGUMENT, 0);
        limit("promise 38", "powers", 0, 0, 9, Checks.ARGUMENT, 0, 999);
        limit("promise 38", "powers", 1, 0, 999, Checks.ARGUMENT, 9, 0);
        limit("promise 39", "books", 0, 0, 4, Checks.ARGUMENT, 0);
        maker = Backwardterms::new;
        limit("promise 35, an empty desk", "value", 0, -50, 100, Checks.ARGUMENT, 0);
        limit("promise 36, not told", "wound", 0, 0, 40, Checks.ARGUMENT, 0);
        limit("promise 37, not told", "woundSum", 0, 0, 41, Checks.ARGUMENT, 0);
    }

    // ---- no such SEQUENCE

    private static void noSuchSequence() {
        maker = () -> Checks.busy(ELEVEN);
        none("promise 7, the one", "combine", 1, 10, 2, 2, 0);
        none("promise 7, the other", "combine", 2, 10, 2, 2, 0);
        none("promise 8", "derive", 1, 10, 0, 1, 0);
        none("promise 11", "shorten", 0, 0);
        none("promise 12", "drop", 0, 0);
        none("promise 18", "ofSequence", 0, 0, 0);
        none("promise 19", "factor", 0, 0, 1);
        none("promise 20", "text", 0, 0);
        none("promise 21", "term", 0, 0, 0);
        none("promise 22", "termMod", 0, 0, 0, 1);
        none("promise 23", "sum", 0, 0, 1, 1);
        none("promise 24", "fraction", 0, 0);
        none("promise 25", "period", 0, 0, 1, true);
        none("promise 26", "divided", 0, 0, 1);
        for (int kind = 0; kind <= 5; kind++) {
            for (int at = 1; at <= (kind >= 1 && kind <= 3 ? 3 : 2); at++) {
                none("promise 27, kind " + kind, "enough", at, kind, 0, 0, 0);
                none("promise 28, kind " + kind, "fails", at, kind, 0, 0, 0);
            }
        }
        Checks.sentence("section 4: for the KINDS 0, 4 and 5 it does not matter what c is");
        for (int c : new int[] {2, 3, 9, 24, -1, 26, Integer.MIN_VALUE, Integer.MAX_VALUE}) {
            for (int kind : new int[] {0, 4, 5}) {
                answers("enough", 4, kind, 0, 1, c);
                answers("fails", 0, kind, 0, 1, c);
            }
        }
    }

    /** A number that is no NAME, a NAME that never had one, one that lost it. */
    private static void none(String promise, String name, int at, Object... args) {
        Checks.sentence(promise + ", there is no such SEQUENCE");
        for (int no : new int[] {9, 24, -1, 26, Integer.MIN_VALUE, Integer.MAX_VALUE}) {
            throwsThen(name, Checks.INDEX, with(args, at, no));
        }
        Supplier<Backwardterms> before = maker;
        maker = () -> {
            Backwardterms b = Checks.busy(ELEVEN);
            b.drop(1);
            return b;
        };
        throwsThen(name, Checks.INDEX, with(args, at, 1));
        maker = before;
        taken(name, at, 0, args);
    }

    // ---- desks

    private static void fullDesks() {
        Checks.sentence("promise 2, IllegalStateException if the DESK would have more than 16");
        for (int had = 0; had <= 16; had++) {
            int[] numbers = new int[had];
            maker = () -> Checks.busy(numbers);
            for (int many = 1; many <= 5; many++) {
                Object[] args = {many, 99, -99, 1, 2, 3};
                if (had + many <= 16) answers("lay", had + many, args);
                else throwsThen("lay", Checks.STATE, args);
            }
        }
    }

    /** The desk may have just as many as are needed, and not one less. */
    private static void needs(int count, String name, Object... args) {
        int[] enough = new int[count];
        int[] less = new int[count - 1];
        maker = () -> Checks.busy(enough);
        Object got = call(maker.get(), name, args);
        Checks.due(told(name, args) + " with " + count + " throws, answering " + got, got.toString().startsWith("throws."), false);
        maker = () -> Checks.busy(less);
        throwsThen(name, Checks.STATE, args);
        maker = () -> Checks.busy();
        throwsThen(name, Checks.STATE, args);
    }

    private static void shortDesks() {
        Checks.sentence("promise 5, IllegalStateException if the DESK has fewer than 2 * order numbers");
        for (int order = 1; order <= 4; order++) needs(2 * order, "tell", 10, order);
        Checks.sentence("promise 9, IllegalStateException if the DESK has fewer than states * letters numbers");
        for (int states = 1; states <= 4; states++) {
            for (int letters = 1; letters <= 4; letters++) needs(states * letters, "machine", 10, states, letters, 1);
        }
        Checks.sentence("promise 10, IllegalStateException if the DESK has no more than top numbers");
        for (int top = 0; top <= 8; top++) needs(top + 1, "read", 10, top);
        for (int had = 0; had <= 16; had++) {
            int[] numbers = new int[had];
            if (had > 0) numbers[had - 1] = 1;
            maker = () -> Checks.busy(numbers);
            for (int top = had; top <= 16; top++) throwsThen("read", Checks.STATE, 10, top);
            throwsThen("read", Checks.ARGUMENT, 10, 17);
        }
        Checks.sentence("promise 13, IllegalStateException if the DESK has fewer than eight");
        needs(8, "wind");
    }

    private static void emptyDesk() {
        maker = () -> Checks.busy();
        Checks.sentence("promise 5, fewer than 2 * order numbers: none are needed for the ORDER 0");
        answers("tell", 11, 10, 0);
        Checks.sentence("promise 6, an empty desk is taken");
        answers("adopt", 0, 10);
    }

    private static void nothingToUndo() {
        Checks.sentence("promise 14, IllegalStateException if there is none");
        maker = Backwardterms::new;
        throwsThen("undo", Checks.STATE);
        maker = () -> {
            Backwardterms b = Checks.busy(ELEVEN);
            for (int i = 0; i < 10; i++) b.undo();
            return b;
        };
        throwsThen("undo", Checks.STATE);
        maker = () -> {
            Backwardterms b = Checks.busy(ELEVEN);
            for (int i = 0; i < 9; i++) b.undo();
            return b;
        };
        answers("undo", 0);
    }

    // ---- what is refused

    private static void bounds() {
        maker = () -> Checks.busy(ELEVEN);
        Checks.sentence("section 2, if B is more than 8, this is refused: B = k + l, to 8 and to 9");
        for (int how : new int[] {0, 1, 3, 4}) {
            taken("combine", 3, how, new Object[] {10, 7, 2, 0});
            throwsThen("combine", Checks.STATE, 10, 8, 2, how);
            throwsThen("combine", Checks.STATE, 10, 2, 8, how);
            throwsThen("combine", Checks.STATE, 10, 7, 0, how);
            throwsThen("combine", Checks.STATE, 10, 8, 8, how);
        }
        answers("combine", 8, 10, 8, 3, 0);
        answers("combine", 8, 10, 3, 8, 1);
        answers("combine", 0, 10, 8, 3, 3);
        answers("combine", 0, 10, 3, 8, 4);
        Checks.sentence("section 2, if B is more than 8, this is refused: B = k * l, to 8 and to 9");
        answers("combine", 8, 10, 8, 2, 2);
        answers("combine", 0, 10, 8, 3, 2);
        taken("combine", 3, 2, new Object[] {10, 0, 4, 2});
        taken("combine", 3, 2, new Object[] {10, 4, 1, 2});
        throwsThen("combine", Checks.STATE, 10, 5, 5, 2);
        throwsThen("combine", Checks.STATE, 10, 8, 0, 2);
        throwsThen("combine", Checks.STATE, 10, 8, 8, 2);
        Checks.sentence("section 2, it is the ORDER as it is that counts, not that of the SHORTEST recurrence, nor what is made");
        throwsThen("combine", Checks.STATE, 10, 6, 6, 2);
        throwsThen("combine", Checks.STATE, 10, 6, 8, 2);
        throwsThen("combine", Checks.STATE, 10, 8, 8, 1);
        throwsThen("combine", Checks.STATE, 10, 8, 6, 0);
        throwsThen("combine", Checks.STATE, 10, 8, 6, 1);
        throwsThen("combine", Checks.STATE, 10, 8, 6, 3);
        throwsThen("combine", Checks.STATE, 10, 6, 8, 4);
        throwsThen("combine", Checks.STATE, 10, 8, 8, 4);
        throwsThen("derive", Checks.STATE, 10, 6, 5, 3);
        maker = () -> made(2, 1, -1, 1, 0, 0, 0, 0, 0, 0, 0, 1);
        answers("ofSequence", 8, 20, 0);
        throwsThen("derive", Checks.STATE, 10, 20, 0, 0);
        maker = () -> made(5, 0, 0, 0, 0, 1, 1);
        answers("ofSequence", 5, 20, 0);
        throwsThen("derive", Checks.STATE, 10, 20, 6, 0);
        throwsThen("derive", Checks.STATE, 10, 20, 5, 2);
        maker = () -> Checks.busy(ELEVEN);
        Checks.sentence("section 2, if B is more than 8, this is refused: what is DERIVED, to 8 and above");
        answers("derive", 8, 10, 7, 0, 0);
        throwsThen("derive", Checks.STATE, 10, 8, 0, 0);
        // eight steps of "i" lead round, so they sum to 0 and seven of them tell the eighth
        answers("derive", 7, 10, 8, 1, 0);
        for (int how = 2; how <= 4; how++) answers("derive", 8, 10, 8, how, 1);
        int[] names = {2, 0, 5, 4, 7, 8};
        int[] orders = {1, 2, 3, 4, 7, 8};
        for (int i = 0; i < names.length; i++) {
            for (int x = 1; x <= 8; x++) {
                if (orders[i] * x > 8) throwsThen("derive", Checks.STATE, 10, names[i], 5, x);
                else answers("derive", orders[i] * x, 10, names[i], 5, x);
            }
        }
        answers("derive", 8, 10, 4, 6, 1);
        throwsThen("derive", Checks.STATE, 10, 7, 6, 1);
        throwsThen("derive", Checks.STATE, 10, 8, 6, 1);
    }

    /** So many numbers above the others, as "u". */
    private static Backwardterms made(int top, int... desk) {
        Backwardterms b = Checks.busy(desk);
        b.read(20, top);
        return b;
    }

    // ---- the order of exceptions

    private static void orderOfLaying() {
        maker = () -> Checks.busy(0, 0, 0, 0, 0, 0, 0, 0, 0, 0, 0, 0, 0, 0, 0);
        Checks.sentence("promise 2, the numbers ahead of the full desk");
        throwsThen("lay", Checks.STATE, 2, 1, 1, 100, 100, 100);
        throwsThen("lay", Checks.ARGUMENT, 2, 1, 100, 0, 0, 0);
        throwsThen("lay", Checks.ARGUMENT, 2, -100, 1, 0, 0, 0);
        throwsThen("lay", Checks.ARGUMENT, 6, 0, 0, 0, 0, 0);
        throwsThen("lay", Checks.ARGUMENT, 5, 0, 0, 0, 0, 100);
    }

    private static void orderOfTelling() {
        maker = () -> Checks.busy(1);
        Checks.sentence("promise 5, NAME and ORDER ahead of the short desk");
        throwsThen("tell", Checks.STATE, 10, 1);
        throwsThen("tell", Checks.ARGUMENT, 26, 1);
        throwsThen("tell", Checks.ARGUMENT, 10, 5);
        throwsThen("tell", Checks.ARGUMENT, -1, 5);
        maker = () -> Checks.busy(0, 0, 0, 1, 99, -99, 99, -99);
        Checks.sentence("promise 6, the NAME ahead of LONG");
        throwsThen("adopt", Checks.STATE, 10);
        throwsThen("adopt", Checks.ARGUMENT, 26);
        throwsThen("adopt", Checks.ARGUMENT, -1);
    }

    private static void orderOfMaking() {
        maker = () -> Checks.busy(ELEVEN);
        Checks.sentence("promise 7, no such SEQUENCE ahead of the arguments, and those ahead of what is refused");
        int[] names = {10, -1};
        int[] ones = {8, 9, 26};
        int[] others = {8, 9, -1};
        int[] hows = {0, 4, 5, -1};
        for (int name : names) for (int one : ones) for (int other : others) for (int how : hows) {
            String want = one != 8 || other != 8 ? Checks.INDEX : name < 0 || how > 4 || how < 0 ? Checks.ARGUMENT : Checks.STATE;
            throwsThen("combine", want, name, one, other, how);
        }
        Checks.sentence("promise 8, no such SEQUENCE ahead of the arguments, and those ahead of what is refused");
        int[][] derivers = {{0, 0}, {6, 9}, {0, 1}, {6, 10}, {7, 0}, {-1, 0}};
        for (int name : names) for (int one : ones) for (int i = 0; i < derivers.length; i++) {
            String want = one != 8 ? Checks.INDEX : name < 0 || i > 1 ? Checks.ARGUMENT : Checks.STATE;
            throwsThen("derive", want, name, one, derivers[i][0], derivers[i][1]);
        }
    }

    private static void orderOfMakingFromTheDesk() {
        maker = () -> Checks.busy(9);
        Checks.sentence("promise 9, the arguments ahead of the short desk");
        int[][] machines = {{10, 2, 2, 1}, {26, 2, 2, 1}, {10, 5, 2, 1}, {10, 2, 5, 1}, {10, 2, 2, 4}, {10, 0, 2, 0}, {10, 2, 0, 1}, {-1, 5, 5, -1}};
        for (int i = 0; i < machines.length; i++) {
            int[] m = machines[i];
            throwsThen("machine", i == 0 ? Checks.STATE : Checks.ARGUMENT, m[0], m[1], m[2], m[3]);
        }
        Checks.sentence("promise 10, the arguments ahead of the short desk");
        throwsThen("read", Checks.STATE, 10, 1);
        throwsThen("read", Checks.ARGUMENT, 26, 1);
        throwsThen("read", Checks.ARGUMENT, 10, 17);
        maker = () -> Checks.busy(1, 0, 0, 0, 0, 0, 0, 0, 0, 1);
        Checks.sentence("promise 10, the arguments ahead of what is refused");
        throwsThen("read", Checks.STATE, 10, 0);
        throwsThen("read", Checks.ARGUMENT, -1, 0);
        throwsThen("read", Checks.ARGUMENT, 10, -1);
    }

    private static void orderOfAsking() {
        maker = () -> Checks.busy(ELEVEN);
        Checks.sentence("promises 18 to 26, no such SEQUENCE ahead of the arguments");
        for (int no : new int[] {9, -1, 26}) {
            throwsThen("ofSequence", Checks.INDEX, no, 5);
            throwsThen("factor", Checks.INDEX, no, 0);
            throwsThen("term", Checks.INDEX, no, 101);
            throwsThen("termMod", Checks.INDEX, no, -1001, 1);
            throwsThen("termMod", Checks.INDEX, no, 0, 0);
            throwsThen("sum", Checks.INDEX, no, 0, 1);
            throwsThen("sum", Checks.INDEX, no, 1, 13);
            throwsThen("period", Checks.INDEX, no, 0, true);
            throwsThen("divided", Checks.INDEX, no, 1000);
        }
    }

    private static void orderOfIdentities() {
        maker = () -> Checks.busy(ELEVEN);
        for (String name : new String[] {"enough", "fails"}) {
            Checks.sentence(name + ", no such SEQUENCE ahead of the KIND");
            for (int kind : new int[] {-1, 6, Integer.MIN_VALUE, Integer.MAX_VALUE}) {
                throwsThen(name, Checks.INDEX, kind, 9, 0, 0);
                throwsThen(name, Checks.INDEX, kind, 0, 26, 0);
                throwsThen(name, Checks.INDEX, kind, -1, 9, 9);
                // c matters for the KINDS 1, 2 and 3 alone
                throwsThen(name, Checks.ARGUMENT, kind, 0, 0, 9);
            }
        }
    }

    private static void exceptionsAheadOfNothing() {
        Checks.sentence("Description, exceptions go ahead of CROOKED: combine");
        maker = () -> Checks.busy(ELEVEN);
        answers("combine", -5, 10, 0, 1, 4);
        answers("combine", -5, 10, 8, 3, 4);
        throwsThen("combine", Checks.INDEX, 10, 9, 1, 4);
        throwsThen("combine", Checks.ARGUMENT, 26, 0, 1, 4);
        throwsThen("combine", Checks.STATE, 10, 7, 1, 4);
        throwsThen("combine", Checks.STATE, 10, 8, 1, 4);
        Checks.sentence("Description, exceptions go ahead of CROOKED: read");
        maker = () -> Checks.busy(0, 0, 0, 0, 0, 0, 0, 0, 0, 2);
        throwsThen("read", Checks.STATE, 10, 9);
        throwsThen("read", Checks.STATE, 10, 0);
        throwsThen("read", Checks.ARGUMENT, -1, 1);
        answers("read", -5, 10, 1);
        answers("read", -5, 10, 8);
        throwsThen("read", Checks.STATE, 10, 10);
        Checks.sentence("Description, exceptions go ahead of UNSURE and BROKEN: adopt");
        maker = () -> Checks.busy(0, 1);
        answers("adopt", -7, 10);
        throwsThen("adopt", Checks.ARGUMENT, 26);
        maker = () -> Checks.busy(2, 3);
        answers("adopt", -6, 10);
        throwsThen("adopt", Checks.ARGUMENT, -1);
        Checks.sentence("Description, exceptions go ahead of a FAULT: machine");
        maker = () -> Checks.busy(9, 9, 9);
        answers("machine", -100, 10, 1, 3, 1);
        throwsThen("machine", Checks.STATE, 10, 2, 2, 1);
        throwsThen("machine", Checks.ARGUMENT, 26, 1, 3, 1);
        throwsThen("machine", Checks.ARGUMENT, 10, 1, 3, 2);
        Checks.sentence("Description, exceptions go ahead of NONE and JAMMED: termMod; of \"none\": term, wound, woundSum; of UNSURE: foundBy");
        maker = () -> Checks.busy(0, 1);
        answers("termMod", -1, 25, -1000, 999);
        throwsThen("termMod", Checks.ARGUMENT, 25, -1001, 999);
        throwsThen("termMod", Checks.ARGUMENT, 25, -1000, 1000);
        answers("termMod", -9, 2, -1000, 998);
        throwsThen("termMod", Checks.ARGUMENT, 2, -1001, 998);
        throwsThen("termMod", Checks.ARGUMENT, 2, -1000, 1000);
        answers("term", "none", 25, -30);
        throwsThen("term", Checks.ARGUMENT, 25, -31);
        answers("foundBy", -7, 5, 2);
        throwsThen("foundBy", Checks.ARGUMENT, 5, 3);
        throwsThen("foundBy", Checks.ARGUMENT, 4, 2);
        answers("foundFactor", "unsure", 2);
        throwsThen("foundFactor", Checks.ARGUMENT, 3);
        maker = Backwardterms::new;
        answers("wound", "none", 40);
        throwsThen("wound", Checks.ARGUMENT, 41);
        answers("woundSum", "none", 41);
        throwsThen("woundSum", Checks.ARGUMENT, 42);
    }
}
