import java.util.ArrayList;
import java.util.Arrays;

/** Sequences told by recurrences, a desk of numbers, and what is asked of both; the document tells what each call does. */
public final class Backwardterms {
    private static final int NONE = -1;
    private static final int CROOKED = -5;
    private static final int BROKEN = -6;
    private static final int UNSURE = -7;
    private static final int JAMMED = -9;
    private static final int FAULT = -100;

    private static final int PLACES = 16;
    private static final int NAMES = 26;
    private static final int MOST_ORDER = 8;
    private static final int MOST_CHANGES = 10;
    private static final int MOST_LAID = 99;
    private static final int MOST_FACTOR = 999999;
    private static final int MOST_FIRST = 999999999;
    private static final int LAST_WOUND = 40;
    private static final int WINDERS = 8;
    private static final int LAST_SQUARED = 12;
    private static final int LAST_SQUARED_BACK = 6;
    private static final int LAST_TOLD = 20;
    /** How many numbers the digest has of a SEQUENCE alone. */
    private static final int DIGESTED_ALONE = 15;

    /** Limbs for the largest TERM that is told, a(100) of the ORDER 8: less than 73 of nine digits. */
    private static final int ROOM = 80;
    /** Limbs for the TERMS up to a(71) that an IDENTITY asks of its second and third SEQUENCE: less than 52. */
    private static final int SHORT_ROOM = 56;
    /** Limbs for a product of two such TERMS. */
    private static final int WIDE_ROOM = 116;

    /**
     * All above 2^30, so a number below 2^90 that three of them divide is 0; and any 27 of them multiply to more
     * than 2^836, so one that is below that and not 0 cannot be divided by all.
     */
    private static final int[] PRIMES = {2147483647, 2147483629, 2147483587, 2147483579, 2147483563, 2147483549, 2147483543,
        2147483497, 2147483489, 2147483477, 2147483423, 2147483399, 2147483353, 2147483323, 2147483269, 2147483249,
        2147483237, 2147483179, 2147483171, 2147483137, 2147483123, 2147483077, 2147483069, 2147483059, 2147483053,
        2147483033, 2147483029, 2147482951};

    private final int[] laid = new int[PLACES];
    private final long[] columns = new long[PLACES];
    private final int[] rests = new int[PLACES];
    private int laidCount;
    private final Recurrence[] sequences = new Recurrence[NAMES];
    private Winding winding;
    private final ArrayList<Change> changes = new ArrayList<Change>();
    private int knocks;

    private final Row rowOne = new Row(101, ROOM);
    private final Row rowOther = new Row(72, SHORT_ROOM);
    private final Row rowThird = new Row(72, SHORT_ROOM);
    private final Big[] made = bigs(LAST_TOLD + 1, ROOM);
    private final Big work = new Big(WIDE_ROOM);
    private final Big step = new Big(ROOM);
    private final Ratio ratio = new Ratio();
    private final Massey massey = new Massey();
    private final Found overall = new Found();
    private final Back back = new Back();
    private final Squaring squaring = new Squaring();
    private final Remainders remainders = new Remainders();

    public Backwardterms() {
    }

    // ---- the desk

    public int lay(int many, int a, int b, int c, int d, int e) throws IllegalArgumentException, IllegalStateException {
        boolean isRight = many >= 1 && many <= 5 && isLaid(a);
        isRight = isRight && (many < 2 || isLaid(b)) && (many < 3 || isLaid(c));
        isRight = isRight && (many < 4 || isLaid(d)) && (many < 5 || isLaid(e));
        if (!isRight) throw new IllegalArgumentException("numbers to lay");
        if (laidCount + many > PLACES) throw new IllegalStateException("the desk is full");
        for (int i = 0; i < many && laidCount < PLACES; i++) {
            laid[laidCount] = i == 0 ? a : i == 1 ? b : i == 2 ? c : i == 3 ? d : e;
            laidCount++;
        }
        overall.forget();
        return laidCount;
    }

    public int sweep() {
        int had = laidCount;
        laidCount = 0;
        overall.forget();
        return had;
    }

    private static boolean isLaid(int number) {
        return number >= -MOST_LAID && number <= MOST_LAID;
    }

    // ---- sequences

    public int two(int name, int c, int d, int first, int second) throws IllegalArgumentException {
        checkName(name);
        boolean isRight = isLaid(c) && isLaid(d) && isLaid(first) && isLaid(second);
        if (!isRight) throw new IllegalArgumentException("factors and first terms");
        Recurrence told = new Recurrence(2);
        told.factors[0] = c;
        told.factors[1] = d;
        told.first[0] = first;
        told.first[1] = second;
        return giveTold(name, told);
    }

    public int tell(int name, int order) throws IllegalArgumentException, IllegalStateException {
        checkName(name);
        if (order < 0 || order > 4) throw new IllegalArgumentException("order");
        needLaid(2 * order);
        Recurrence told = new Recurrence(order);
        for (int i = 0; i < order; i++) {
            told.factors[i] = laid[i];
            told.first[i] = laid[order + i];
        }
        return giveTold(name, told);
    }

    public int adopt(int name) throws IllegalArgumentException, IllegalStateException {
        checkName(name);
        overall.look(laid, laidCount);
        if (!overall.isSure) return UNSURE;
        Recurrence told = new Recurrence(overall.order);
        boolean isLong = false;
        for (int i = 0; i < told.order && i < laidCount; i++) {
            overall.factorInto(i + 1, ratio);
            ratio.reduce();
            if (!ratio.isWhole()) return BROKEN;
            isLong = isLong || !ratio.over.isWithin(MOST_FACTOR);
            told.factors[i] = (int) ratio.over.small();
            told.first[i] = laid[i];
        }
        if (isLong) throw new IllegalStateException("long");
        give(name, told);
        return told.order;
    }

    public int combine(int name, int one, int other, int how) throws IndexOutOfBoundsException, IllegalArgumentException, IllegalStateException {
        Recurrence a = sequence(one);
        Recurrence b = sequence(other);
        checkName(name);
        if (how < 0 || how > 4) throw new IllegalArgumentException("how");
        int bound = how == 2 ? a.order * b.order : a.order + b.order;
        checkBound(bound);
        if (how == 4 && (b.order == 0 || b.first[0] != 1 && b.first[0] != -1)) return CROOKED;
        rowOne.start(a);
        rowOther.start(b);
        for (int n = 0; n < 2 * bound && n < made.length; n++) combineAt(how, n, made[n]);
        return make(name, bound);
    }

    private void combineAt(int how, int n, Big sum) {
        switch (how) {
            case 0:
                sum.copy(rowOne.at(n));
                sum.addTimes(rowOther.at(n), 1, 0);
                break;
            case 1:
                sum.copy(rowOne.at(n));
                sum.addTimes(rowOther.at(n), -1, 0);
                break;
            case 2:
                sum.set(0);
                sum.addProduct(rowOne.at(n), rowOther.at(n));
                break;
            case 3:
                sum.set(0);
                for (int j = 0; j <= n; j++) sum.addProduct(rowOne.at(j), rowOther.at(n - j));
                break;
            default:
                sum.set(0);
                for (int j = 0; j < n && j < made.length; j++) sum.addProduct(made[j], rowOther.at(n - j));
                sum.scale(-1);
                sum.addTimes(rowOne.at(n), 1, 0);
                // b(0) is 1 or -1, so the product divides by it
                sum.scale((int) rowOther.at(0).small());
        }
    }

    public int derive(int name, int one, int how, int number) throws IndexOutOfBoundsException, IllegalArgumentException, IllegalStateException {
        Recurrence a = sequence(one);
        checkName(name);
        if (!isDeriver(how, number)) throw new IllegalArgumentException("how and number");
        int bound = a.order;
        if (how == 0) bound = a.order + 1;
        if (how == 5) bound = a.order * number;
        if (how == 6) bound = 2 * a.order;
        checkBound(bound);
        rowOne.start(a);
        for (int n = 0; n < 2 * bound && n < made.length; n++) deriveAt(how, number, n, made[n]);
        return make(name, bound);
    }

    private static boolean isDeriver(int how, int number) {
        switch (how) {
            case 0:
            case 1:
                return number == 0;
            case 2:
                return number >= 1 && number <= 6;
            case 3:
                return number >= 0 && number <= 20;
            case 4:
            case 6:
                return number >= -9 && number <= 9;
            case 5:
                return number >= 1 && number <= 8;
            default:
                return false;
        }
    }

    private void deriveAt(int how, int number, int n, Big term) {
        term.set(0);
        switch (how) {
            case 0:
                if (n > 0 && n <= made.length) term.copy(made[n - 1]);
                term.addTimes(rowOne.at(n), 1, 0);
                break;
            case 1:
                term.copy(rowOne.at(n + 1));
                term.addTimes(rowOne.at(n), -1, 0);
                break;
            case 2:
                term.copy(rowOne.at(number * n));
                break;
            case 3:
                term.copy(rowOne.at(n + number));
                break;
            case 4:
                term.addTimes(rowOne.at(n), number, 0);
                break;
            case 5:
                if (number > 0 && n % number == 0) term.copy(rowOne.at(n / number));
                break;
            default:
                term.addTimes(rowOne.at(n), n + number, 0);
        }
    }

    public int machine(int name, int states, int letters, int set) throws IllegalArgumentException, IllegalStateException {
        checkName(name);
        boolean isRight = states >= 1 && states <= 4 && letters >= 1 && letters <= 4;
        isRight = isRight && set >= 0 && set < 1 << states;
        if (!isRight) throw new IllegalArgumentException("states, letters or set");
        int table = states * letters;
        needLaid(table);
        for (int place = 0; place < table && place < PLACES; place++) {
            if (laid[place] < 0 || laid[place] >= states) return FAULT - place;
        }
        Arrays.fill(columns, 0);
        columns[0] = 1;
        for (int n = 0; n < 2 * states && n < made.length; n++) {
            made[n].set(waysInto(set, states));
            takeLetter(states, letters);
        }
        return make(name, states);
    }

    private long waysInto(int set, int states) {
        long ways = 0;
        for (int j = 0; j < states && j < PLACES; j++) {
            if ((set >> j & 1) == 1) ways += columns[j];
        }
        return ways;
    }

    /** The ways to each STATE stand in the columns; those with one LETTER more are told behind them, then moved ahead. */
    private void takeLetter(int states, int letters) {
        for (int i = states; i < PLACES; i++) columns[i] = 0;
        for (int state = 0; state < states; state++) {
            for (int letter = 0; letter < letters; letter++) {
                int place = state * letters + letter;
                int to = place < PLACES ? states + laid[place] : PLACES;
                if (to >= states && to < PLACES) columns[to] += columns[state];
            }
        }
        for (int i = 0; i < states && states + i < PLACES; i++) columns[i] = columns[states + i];
    }

    public int read(int name, int top) throws IllegalArgumentException, IllegalStateException {
        checkName(name);
        if (top < 0 || top > PLACES) throw new IllegalArgumentException("top");
        needLaid(top + 1);
        int last = laidCount - top - 1;
        int bound = top > last ? top : last;
        checkBound(bound);
        if (top >= PLACES || laid[top] != 1 && laid[top] != -1) return CROOKED;
        for (int n = 0; n < 2 * bound && n < made.length; n++) readAt(n, top, last);
        return make(name, bound);
    }

    private void readAt(int n, int top, int last) {
        if (n < 0 || n >= made.length || top < 0 || top >= PLACES) return;
        Big term = made[n];
        term.set(n < top ? laid[n] : 0);
        for (int j = 1; j <= n && j <= last && top + j < PLACES; j++) term.addTimes(made[n - j], -laid[top + j], 0);
        // q(0) is 1 or -1, so the product divides by it
        term.scale(laid[top]);
    }

    public int shorten(int name) throws IndexOutOfBoundsException, IllegalStateException {
        Recurrence had = sequence(name);
        if (had.isLeastLong) throw new IllegalStateException("long");
        Recurrence least = had.shortest();
        give(name, least);
        return had.order - least.order;
    }

    public int drop(int name) throws IndexOutOfBoundsException {
        sequence(name);
        give(name, null);
        return howMany();
    }

    public int wind() throws IllegalStateException {
        needLaid(WINDERS);
        remember(NONE);
        winding = new Winding(laid);
        return winding.count;
    }

    public int undo() throws IllegalStateException {
        int last = changes.size() - 1;
        if (last < 0) throw new IllegalStateException("no change");
        Change change = changes.get(last);
        changes.remove(last);
        if (change.name >= 0 && change.name < NAMES) sequences[change.name] = change.sequence;
        winding = change.winding;
        return last;
    }

    public int knock() {
        knocks++;
        return knocks;
    }

    private void checkName(int name) throws IllegalArgumentException {
        if (name < 0 || name >= NAMES) throw new IllegalArgumentException("name");
    }

    private Recurrence sequence(int name) throws IndexOutOfBoundsException {
        if (!has(name)) throw new IndexOutOfBoundsException("no such sequence");
        return sequences[name];
    }

    private void needLaid(int least) throws IllegalStateException {
        if (laidCount < least) throw new IllegalStateException("the desk has too few numbers");
    }

    private void checkBound(int bound) throws IllegalStateException {
        if (bound > MOST_ORDER) throw new IllegalStateException("bound");
    }

    /** The TERMS to be told by the bound stand in the made row. */
    private int make(int name, int bound) throws IllegalStateException {
        Recurrence least = shortest(made, 2 * bound);
        if (least == null) throw new IllegalStateException("long");
        give(name, least);
        return least.order;
    }

    private int giveTold(int name, Recurrence told) {
        rowOne.start(told);
        rowOne.at(2 * told.order - 1);
        Recurrence least = shortest(rowOne.terms, 2 * told.order);
        told.isLeastLong = least == null;
        if (least != null && least.order < told.order) told.least = least;
        give(name, told);
        return howMany();
    }

    private void give(int name, Recurrence given) {
        remember(name);
        if (name >= 0 && name < NAMES) sequences[name] = given;
    }

    private void remember(int name) {
        if (changes.size() >= MOST_CHANGES) changes.remove(0);
        Recurrence had = name >= 0 && name < NAMES ? sequences[name] : null;
        changes.add(new Change(name, had, winding));
    }

    private int howMany() {
        int many = 0;
        for (int name = 0; name < NAMES; name++) {
            if (sequences[name] != null) many++;
        }
        return many;
    }

    /**
     * The SHORTEST recurrence of terms that are told by one of whole FACTORS and of half their count as ORDER;
     * null, if it is LONG. By a prime its ORDER is never higher than over fractions, so a recurrence found by a
     * prime which tells all the terms is the one. It is found by each prime that does not divide the determinant of
     * the terms i + j, with i and j below its ORDER, which is not 0. If it is not LONG, term 7 + i is below
     * 8 * 10^(9 + 6 * i) for i from 1 on, so row 0 is not as long as 3 * 10^9 and row i not as 9 * 10^(9 + 6 * i): the
     * determinant is below the product of these eight, 2^822, and the primes that there are cannot all divide it.
     */
    private Recurrence shortest(Big[] terms, int count) {
        for (int prime : PRIMES) {
            for (int n = 0; n < count && n < terms.length && n < PLACES; n++) rests[n] = terms[n].mod(prime);
            massey.find(rests, count, prime);
            if (massey.order > MOST_ORDER || !isFirstShort(terms, massey.order)) return null;
            if (isFactorShort(massey.order)) {
                Recurrence likely = likely(terms);
                if (isToldBy(likely, terms, count)) return likely;
            }
            if (2 * massey.order >= count) return null;
        }
        return null;
    }

    /** Whether so many terms have nine digits at most. */
    private static boolean isFirstShort(Big[] terms, int count) {
        for (int n = 0; n < count && n < terms.length; n++) {
            if (!terms[n].isWithin(MOST_FIRST)) return false;
        }
        return true;
    }

    /** Whether the FACTORS by the last prime, taken nearest to 0, have six digits at most. */
    private boolean isFactorShort(int order) {
        for (int k = 1; k <= order; k++) {
            long factor = massey.factorNearZero(k);
            if (factor < -MOST_FACTOR || factor > MOST_FACTOR) return false;
        }
        return true;
    }

    /** What was found by the last prime, its FACTORS taken nearest to 0. */
    private Recurrence likely(Big[] terms) {
        Recurrence likely = new Recurrence(massey.order);
        for (int i = 0; i < likely.order && i < terms.length; i++) {
            likely.factors[i] = (int) massey.factorNearZero(i + 1);
            likely.first[i] = (int) terms[i].small();
        }
        return likely;
    }

    private boolean isToldBy(Recurrence by, Big[] terms, int count) {
        for (int n = by.order; n < count && n < terms.length; n++) {
            work.copy(terms[n]);
            for (int i = 0; i < by.order; i++) work.addTimes(terms[n - 1 - i], -by.factors[i], 0);
            if (!work.isZero()) return false;
        }
        return true;
    }

    // ---- what is asked of sequences

    public String names() {
        StringBuilder out = new StringBuilder();
        for (int name = 0; name < NAMES; name++) {
            if (sequences[name] != null) out.append((char) ('a' + name));
        }
        return out.toString();
    }

    public boolean has(int name) {
        return name >= 0 && name < NAMES && sequences[name] != null;
    }

    public int ofSequence(int name, int what) throws IndexOutOfBoundsException, IllegalArgumentException {
        Recurrence a = sequence(name);
        switch (what) {
            case 0:
                return a.order;
            case 1:
                return a.shortest().order;
            case 2:
                return a.goesBack() ? 1 : 0;
            case 3:
                return back.wholeOnes(a);
            case 4:
                return lastZero(a);
            default:
                throw new IllegalArgumentException("what");
        }
    }

    private int lastZero(Recurrence a) {
        rowOne.start(a);
        for (int n = 30; n >= 0; n--) {
            if (rowOne.at(n).isZero()) return n;
        }
        return NONE;
    }

    public String factor(int name, int k) throws IndexOutOfBoundsException, IllegalArgumentException {
        Recurrence a = sequence(name);
        if (k < 1 || k > a.order) throw new IllegalArgumentException("k");
        StringBuilder out = new StringBuilder();
        out.append(a.factors[k - 1]);
        return out.toString();
    }

    public String text(int name) throws IndexOutOfBoundsException {
        Recurrence a = sequence(name);
        StringBuilder out = new StringBuilder();
        putText(out, a);
        return out.toString();
    }

    private static void putText(StringBuilder out, Recurrence a) {
        if (a.order == 0) {
            out.append('0');
            return;
        }
        for (int i = 0; i < a.order; i++) {
            out.append(a.factors[i]);
            out.append(' ');
        }
        out.append(';');
        for (int i = 0; i < a.order; i++) {
            out.append(' ');
            out.append(a.first[i]);
        }
    }

    public String term(int name, int n) throws IndexOutOfBoundsException, IllegalArgumentException {
        Recurrence a = sequence(name);
        if (n < -30 || n > 100) throw new IllegalArgumentException("n");
        StringBuilder out = new StringBuilder();
        putTerm(out, a, n);
        return out.toString();
    }

    private void putTerm(StringBuilder out, Recurrence a, int n) {
        if (n >= 0) {
            rowOne.start(a);
            rowOne.at(n).put(out);
        } else if (a.goesBack()) {
            ratio.set(back.scaled(a, -n));
            for (int i = 0; i < -n; i++) ratio.divide(a.last());
            ratio.put(out);
        } else {
            out.append("none");
        }
    }

    public int termMod(int name, int n, int m) throws IndexOutOfBoundsException, IllegalArgumentException {
        Recurrence a = sequence(name);
        boolean isRight = n >= -1000 && n <= 100000 && m >= 1 && m <= 999;
        if (!isRight) throw new IllegalArgumentException("n or m");
        if (n < 0 && !a.goesBack()) return NONE;
        return remainders.far(a, n, m);
    }

    public String sum(int name, int step, int many) throws IndexOutOfBoundsException, IllegalArgumentException {
        Recurrence a = sequence(name);
        boolean isRight = step >= 1 && step <= 9 && many >= 0 && many <= 12;
        if (!isRight) throw new IllegalArgumentException("step or many");
        StringBuilder out = new StringBuilder();
        putSum(out, a, step, many);
        return out.toString();
    }

    private void putSum(StringBuilder out, Recurrence a, int step, int many) {
        rowOne.start(a);
        work.set(0);
        for (int i = 0; i < many; i++) work.addTimes(rowOne.at(i * step), 1, 0);
        work.put(out);
    }

    public String fraction(int name) throws IndexOutOfBoundsException {
        Recurrence a = sequence(name);
        StringBuilder out = new StringBuilder();
        putFraction(out, a.shortest());
        return out.toString();
    }

    private void putFraction(StringBuilder out, Recurrence least) {
        if (least.order == 0) out.append("0 ");
        for (int n = 0; n < least.order; n++) {
            work.set(least.above(n));
            work.put(out);
            out.append(' ');
        }
        out.append("/ 1");
        for (int i = 0; i < least.order; i++) {
            out.append(' ');
            out.append(-least.factors[i]);
        }
    }

    public int period(int name, int m, boolean isTail) throws IndexOutOfBoundsException, IllegalArgumentException {
        Recurrence a = sequence(name);
        if (m < 1 || m > 20) throw new IllegalArgumentException("m");
        remainders.turn(a, m);
        return isTail ? remainders.tail : remainders.period;
    }

    public int divided(int name, int m) throws IndexOutOfBoundsException, IllegalArgumentException {
        Recurrence a = sequence(name);
        if (m < 1 || m > 999) throw new IllegalArgumentException("m");
        return remainders.firstZero(a, m);
    }

    public int enough(int kind, int a, int b, int c) throws IndexOutOfBoundsException, IllegalArgumentException {
        Recurrence first = sequence(a);
        Recurrence second = sequence(b);
        Recurrence last = kind >= 1 && kind <= 3 ? sequence(c) : second;
        if (kind < 0 || kind > 5) throw new IllegalArgumentException("kind");
        return enoughFor(kind, first, second, last);
    }

    private static int enoughFor(int kind, Recurrence a, Recurrence b, Recurrence c) {
        if (kind == 1 || kind == 3) return a.order + b.order + c.order;
        return kind == 2 ? a.order * b.order + c.order : a.order + b.order;
    }

    public int fails(int kind, int a, int b, int c) throws IndexOutOfBoundsException, IllegalArgumentException {
        Recurrence first = sequence(a);
        Recurrence second = sequence(b);
        Recurrence last = kind >= 1 && kind <= 3 ? sequence(c) : second;
        if (kind < 0 || kind > 5) throw new IllegalArgumentException("kind");
        rowOne.start(first);
        rowOther.start(second);
        rowThird.start(last);
        int count = enoughFor(kind, first, second, last);
        for (int n = 0; n < count; n++) {
            missAt(kind, n);
            if (!work.isZero()) return n;
        }
        return NONE;
    }

    /** Puts into work by how much the two sides of the IDENTITY differ at n. */
    private void missAt(int kind, int n) {
        work.set(0);
        switch (kind) {
            case 0:
                work.addTimes(rowOne.at(n), 1, 0);
                work.addTimes(rowOther.at(n), -1, 0);
                break;
            case 1:
                work.addTimes(rowOne.at(n), 1, 0);
                work.addTimes(rowOther.at(n), 1, 0);
                work.addTimes(rowThird.at(n), -1, 0);
                break;
            case 2:
                work.addProduct(rowOne.at(n), rowOther.at(n));
                work.addTimes(rowThird.at(n), -1, 0);
                break;
            case 3:
                for (int j = 0; j <= n; j++) work.addProduct(rowOne.at(j), rowOther.at(n - j));
                work.addTimes(rowThird.at(n), -1, 0);
                break;
            case 4:
                work.addTimes(rowOne.at(n + 1), 1, 0);
                work.addTimes(rowOne.at(n), -1, 0);
                work.addTimes(rowOther.at(n), -1, 0);
                break;
            default:
                work.addTimes(rowOne.at(2 * n), 1, 0);
                work.addTimes(rowOther.at(n), -1, 0);
        }
    }

    // ---- what is asked of the desk, of winding, of powers

    public int desk(int place) throws IndexOutOfBoundsException {
        if (place < 0 || place >= laidCount || place >= PLACES) throw new IndexOutOfBoundsException("place");
        return laid[place];
    }

    public int found(int what) throws IllegalArgumentException {
        if (what < 0 || what > 2) throw new IllegalArgumentException("what");
        overall.look(laid, laidCount);
        if (what == 0) return overall.order;
        if (what == 1) return overall.isSure ? 1 : 0;
        return overall.isSure ? 0 : 2 * overall.order - laidCount;
    }

    public String foundFactor(int k) throws IllegalArgumentException {
        overall.look(laid, laidCount);
        if (k < 1 || k > overall.order) throw new IllegalArgumentException("k");
        if (!overall.isSure) return "unsure";
        overall.factorInto(k, ratio);
        ratio.reduce();
        StringBuilder out = new StringBuilder();
        ratio.put(out);
        return out.toString();
    }

    public int foundBy(int prime, int k) throws IllegalArgumentException {
        if (!isSmallPrime(prime)) throw new IllegalArgumentException("prime");
        for (int n = 0; n < laidCount && n < PLACES; n++) rests[n] = Math.floorMod(laid[n], prime);
        massey.find(rests, laidCount, prime);
        if (k < 0 || k > massey.order) throw new IllegalArgumentException("k");
        if (k == 0) return massey.order;
        return 2 * massey.order <= laidCount ? (int) massey.factorBy(k) : UNSURE;
    }

    private static boolean isSmallPrime(int number) {
        if (number < 2 || number > 97) return false;
        for (int i = 2; i < number && i < 10; i++) {
            if (number % i == 0) return false;
        }
        return true;
    }

    public int difference(int row, int place) throws IndexOutOfBoundsException {
        if (row < 0 || row >= laidCount) throw new IndexOutOfBoundsException("row");
        if (place < 0 || place >= laidCount - row) throw new IndexOutOfBoundsException("place");
        layColumns();
        differ(row, laidCount);
        int column = row + place;
        return column < PLACES ? (int) columns[column] : 0;
    }

    public int degree() {
        layColumns();
        differ(laidCount - 1, laidCount);
        for (int i = laidCount - 1; i >= 0 && i < PLACES; i--) {
            if (columns[i] != 0) return i;
        }
        return NONE;
    }

    public String value(int n) throws IllegalArgumentException {
        if (n < -50 || n > 100) throw new IllegalArgumentException("n");
        StringBuilder out = new StringBuilder();
        putValue(out, n);
        return out.toString();
    }

    private void putValue(StringBuilder out, int n) {
        layColumns();
        putThrough(out, n, laidCount);
    }

    private void layColumns() {
        for (int i = 0; i < laidCount && i < PLACES; i++) columns[i] = laid[i];
    }

    /** Differences so many times; each row stands one place behind where that ahead of it began. */
    private void differ(int times, int count) {
        for (int i = 1; i <= times; i++) {
            for (int j = count - 1; j >= i && j < PLACES; j--) columns[j] -= columns[j - 1];
        }
    }

    /** Puts what the polynomial through so many columns at 0, 1, 2, ... is at n: leading differences times binomials. */
    private void putThrough(StringBuilder out, int n, int count) {
        differ(count - 1, count);
        work.set(0);
        step.set(1);
        for (int i = 0; i < count && i < PLACES; i++) {
            work.addTimes(step, (int) columns[i], 0);
            step.scale(n - i);
            step.divide(i + 1);
        }
        work.put(out);
    }

    public String wound(int n) throws IllegalArgumentException {
        if (n < 0 || n > LAST_WOUND) throw new IllegalArgumentException("n");
        StringBuilder out = new StringBuilder();
        putWound(out, n, false);
        return out.toString();
    }

    public String woundSum(int many) throws IllegalArgumentException {
        if (many < 0 || many > LAST_WOUND + 1) throw new IllegalArgumentException("many");
        StringBuilder out = new StringBuilder();
        if (many == 0) out.append('0');
        else putWound(out, many - 1, true);
        return out.toString();
    }

    private void putWound(StringBuilder out, int n, boolean isSum) {
        if (winding == null || n >= winding.count) {
            out.append("none");
            return;
        }
        ratio.set(winding.scaled(n, isSum, made));
        for (int i = 2; i <= n; i++) ratio.divide(winding.divisor(i));
        ratio.put(out);
    }

    public String powers(int exponent, int n) throws IllegalArgumentException {
        boolean isRight = exponent >= 0 && exponent <= 9 && n >= 0 && n <= 999;
        if (!isRight) throw new IllegalArgumentException("exponent or n");
        // the sums are the values of a polynomial of the degree exponent + 1
        columns[0] = 0;
        for (int j = 1; j <= exponent + 1 && j < PLACES; j++) {
            long power = 1;
            for (int i = 0; i < exponent; i++) power *= j;
            columns[j] = columns[j - 1] + power;
        }
        StringBuilder out = new StringBuilder();
        putThrough(out, n, exponent + 2);
        return out.toString();
    }

    public int books(int what) throws IllegalArgumentException {
        switch (what) {
            case 0:
                return laidCount;
            case 1:
                return howMany();
            case 2:
                return changes.size();
            case 3:
                return winding == null ? 0 : winding.count;
            case 4:
                return knocks;
            default:
                throw new IllegalArgumentException("what");
        }
    }

    // ---- all of it

    public boolean isSound() {
        for (int name = 0; name < NAMES; name++) {
            Recurrence a = sequences[name];
            // a recurrence never changes, so neither does whether it is sound
            if (a == null || a.isSeenSound) continue;
            rowOne.start(a);
            rowOther.start(a.shortest());
            squaring.startAhead(a);
            squaring.raise(a, LAST_SQUARED);
            if (!isToldBySquaring(a)) return false;
            squaring.startBack(a);
            squaring.raise(a, LAST_SQUARED_BACK);
            if (a.goesBack() && !isToldBySquaringBack(a)) return false;
            if (!isToldByShortest() || !isToldByFraction(a.shortest())) return false;
            if (!remainders.isTurning(a, 5) || a.isLong()) return false;
            a.isSeenSound = true;
        }
        return true;
    }

    private boolean isToldBySquaring(Recurrence a) {
        for (int n = 0; n <= LAST_SQUARED; n++) {
            if (!squaring.isLike(a, n, rowOne.at(n))) return false;
        }
        return true;
    }

    private boolean isToldBySquaringBack(Recurrence a) {
        for (int n = 0; n <= LAST_SQUARED_BACK; n++) {
            if (!squaring.isLike(a, n, back.scaled(a, n))) return false;
        }
        return true;
    }

    /** The first row has the SEQUENCE, the other one its SHORTEST recurrence. */
    private boolean isToldByShortest() {
        for (int n = 0; n <= LAST_TOLD; n++) {
            if (!rowOne.at(n).isLike(rowOther.at(n))) return false;
        }
        return true;
    }

    private boolean isToldByFraction(Recurrence least) {
        for (int n = 0; n <= LAST_TOLD && n < made.length; n++) {
            made[n].set(least.above(n));
            for (int i = 0; i < least.order && i < n; i++) made[n].addTimes(made[n - 1 - i], least.factors[i], 0);
            if (!made[n].isLike(rowOne.at(n))) return false;
        }
        return true;
    }

    public long digest() {
        StringBuilder out = new StringBuilder();
        long d = 5606;
        for (int what = 0; what <= 4; what++) d = d * 31 + books(what);
        for (int place = 0; place < laidCount && place < PLACES; place++) d = d * 31 + laid[place];
        for (int what = 0; what <= 2; what++) d = d * 31 + found(what);
        d = d * 31 + foundBy(2, 0);
        d = d * 31 + foundBy(7, 0);
        d = d * 31 + degree();
        putValue(out, 20);
        d = d * 31 + signs(out);
        int smallest = NONE;
        for (int name = 0; name < NAMES; name++) {
            Recurrence a = sequences[name];
            if (a == null) continue;
            if (smallest == NONE) smallest = name;
            if (!a.isDigested) digestAlone(a, name, out);
            d = d * 31 + name;
            for (int i = 0; i < DIGESTED_ALONE; i++) d *= 31;
            d += a.digested;
            d = d * 31 + fails(0, name, smallest, smallest);
        }
        putWound(out, 9, false);
        d = d * 31 + signs(out);
        putWound(out, 8, true);
        d = d * 31 + signs(out);
        return d * 31 + (isSound() ? 1 : 0);
    }

    /** What the digest has of a SEQUENCE alone; a recurrence never changes, so it is told once, and many digests make little. */
    private void digestAlone(Recurrence a, int name, StringBuilder out) {
        long d = 0;
        for (int what = 0; what <= 4; what++) d = d * 31 + ofSequence(name, what);
        putText(out, a);
        d = d * 31 + signs(out);
        putFraction(out, a.shortest());
        d = d * 31 + signs(out);
        putTerm(out, a, 30);
        d = d * 31 + signs(out);
        putTerm(out, a, -5);
        d = d * 31 + signs(out);
        putSum(out, a, 2, 5);
        d = d * 31 + signs(out);
        d = d * 31 + termMod(name, 1000, 97);
        d = d * 31 + termMod(name, -7, 97);
        d = d * 31 + period(name, 6, false);
        d = d * 31 + period(name, 6, true);
        a.digested = d * 31 + divided(name, 7);
        a.isDigested = true;
    }

    /** How many signs were put; takes them away, so that one builder serves the whole digest. */
    private static int signs(StringBuilder out) {
        int many = out.length();
        out.setLength(0);
        return many;
    }

    // ---- numbers

    private static Big[] bigs(int count, int room) {
        Big[] made = new Big[count < 0 ? 0 : count];
        for (int i = 0; i < made.length; i++) made[i] = new Big(room);
        return made;
    }

    private static int commonDivisor(int a, int b) {
        int high = a;
        int low = b;
        for (int i = 0; i < 100 && low != 0; i++) {
            int rest = high % low;
            high = low;
            low = rest;
        }
        return high;
    }

    /** That number of 0 to m - 1 which times a is 1 MOD m; NONE, if there is none. */
    private static long inverse(long a, long m) {
        if (m < 1) return NONE;
        long high = m;
        long low = Math.floorMod(a, m);
        long highTimes = 0;
        long lowTimes = 1;
        for (int i = 0; i < 200 && low != 0; i++) {
            long times = high / low;
            long rest = high - times * low;
            long restTimes = highTimes - times * lowTimes;
            high = low;
            low = rest;
            highTimes = lowTimes;
            lowTimes = restTimes;
        }
        return high == 1 ? Math.floorMod(highTimes, m) : NONE;
    }

    /**
     * A whole number in limbs of nine digits, the lowest first. Above its limbs stand, without end, limbs of 0,
     * or of 999999999 if it is below 0: so one way of carrying serves numbers of both signs.
     */
    private static final class Big {
        static final int BASE = 1000000000;

        final int[] limbs;
        int size;
        /** 0, or -1 if the number is below 0. */
        int top;

        Big(int room) {
            limbs = new int[room < 4 ? 4 : room];
        }

        void set(long number) {
            close(0, number);
        }

        void copy(Big from) {
            size = from.size < limbs.length ? from.size : limbs.length;
            System.arraycopy(from.limbs, 0, limbs, 0, size);
            top = from.top;
        }

        boolean isZero() {
            return size == 0 && top == 0;
        }

        boolean isLike(Big with) {
            if (size != with.size || top != with.top) return false;
            for (int i = 0; i < size && i < with.size; i++) {
                if (limbs[i] != with.limbs[i]) return false;
            }
            return true;
        }

        /** Whether it lies between -most and most, with a most of nine digits. */
        boolean isWithin(int most) {
            return size <= 1 && small() >= -most && small() <= most;
        }

        /** The number, if it has one limb at most. */
        long small() {
            return size == 0 ? top : limbs[0] + (long) top * BASE;
        }

        /** Adds factor times other, moved up by so many limbs. What has no room is not added: no promise comes near that. */
        void addTimes(Big other, int factor, int shift) {
            int end = size > other.size + shift ? size : other.size + shift;
            if (factor == 0 || shift < 0 || end + 2 > limbs.length) return;
            int fill = top < 0 ? BASE - 1 : 0;
            for (int i = size; i < end; i++) limbs[i] = fill;
            int otherFill = other.top < 0 ? BASE - 1 : 0;
            long carry = 0;
            for (int i = shift; i < end; i++) {
                int j = i - shift;
                long limb = j < other.size ? other.limbs[j] : otherFill;
                long sum = limbs[i] + factor * limb + carry;
                carry = Math.floorDiv(sum, (long) BASE);
                limbs[i] = (int) (sum - carry * BASE);
            }
            close(end, top + (long) factor * other.top + carry);
        }

        void addProduct(Big a, Big b) {
            for (int i = 0; i < b.size; i++) addTimes(a, b.limbs[i], i);
            if (b.top < 0) addTimes(a, -1, b.size);
        }

        void scale(int factor) {
            if (size + 2 > limbs.length) return;
            long carry = 0;
            for (int i = 0; i < size; i++) {
                long sum = (long) factor * limbs[i] + carry;
                carry = Math.floorDiv(sum, (long) BASE);
                limbs[i] = (int) (sum - carry * BASE);
            }
            close(size, (long) factor * top + carry);
        }

        /** Puts what stands above the first limbs behind them, and leaves no limb that need not be told. */
        private void close(int from, long above) {
            int end = from;
            long rest = above;
            while (rest != 0 && rest != -1 && end < limbs.length) {
                long next = Math.floorDiv(rest, (long) BASE);
                limbs[end] = (int) (rest - next * BASE);
                rest = next;
                end++;
            }
            top = rest < 0 ? -1 : 0;
            int fill = top < 0 ? BASE - 1 : 0;
            while (end > 0 && limbs[end - 1] == fill) end--;
            size = end;
        }

        /** Divides by a number above 0, down to a whole one. */
        void divide(int by) {
            if (by < 1) return;
            long rest = top < 0 ? by - 1 : 0;
            for (int i = size - 1; i >= 0; i--) {
                long sum = rest * BASE + limbs[i];
                limbs[i] = (int) (sum / by);
                rest = sum % by;
            }
            close(size, top);
        }

        int mod(int by) {
            if (by < 1) return 0;
            long rest = top < 0 ? by - 1 : 0;
            for (int i = size - 1; i >= 0; i--) rest = (rest * BASE + limbs[i]) % by;
            return (int) rest;
        }

        /** Divides by a number above 0, this not below 0 either: how often goes into times, what is left stays here. */
        void divideBy(Big by, Big times) {
            times.set(0);
            if (by.size < 1 || by.top < 0 || top < 0) return;
            int highest = size - by.size;
            if (highest >= times.limbs.length) return;
            for (int shift = highest; shift >= 0; shift--) {
                int often = guess(by, shift);
                addTimes(by, -often, shift);
                for (int i = 0; i < 9 && top < 0; i++) {
                    addTimes(by, 1, shift);
                    often--;
                }
                for (int i = 0; i < 9 && top >= 0; i++) {
                    addTimes(by, -1, shift);
                    often++;
                }
                addTimes(by, 1, shift);
                often--;
                times.limbs[shift] = often;
            }
            times.close(highest + 1 > 0 ? highest + 1 : 0, 0);
        }

        /** How often a divisor, moved up, goes in by the highest limbs of both; at most one or two too few. */
        private int guess(Big by, int shift) {
            int last = by.size + shift;
            double high = ((double) limbAt(last) * BASE + limbAt(last - 1)) * BASE + limbAt(last - 2);
            double low = (double) by.limbAt(by.size - 1) * BASE + by.limbAt(by.size - 2) + 1;
            return (int) (high / low);
        }

        private int limbAt(int i) {
            return i >= 0 && i < size ? limbs[i] : 0;
        }

        void put(StringBuilder out) {
            if (top < 0) {
                out.append('-');
                scale(-1);
                putDigits(out);
                scale(-1);
            } else {
                putDigits(out);
            }
        }

        private void putDigits(StringBuilder out) {
            out.append(size == 0 ? 0 : limbs[size - 1]);
            for (int i = size - 2; i >= 0; i--) {
                for (int over = BASE / 10; over > limbs[i] && over > 1; over /= 10) out.append('0');
                out.append(limbs[i]);
            }
        }
    }

    /** A fraction without common divisors, above 0 what it is divided by. */
    private static final class Ratio {
        final Big over = new Big(ROOM);
        final Big under = new Big(ROOM);
        private final Big high = new Big(ROOM);
        private final Big low = new Big(ROOM);
        private final Big times = new Big(ROOM);

        void set(Big whole) {
            over.copy(whole);
            under.set(1);
        }

        boolean isWhole() {
            return under.size == 1 && under.small() == 1;
        }

        void divide(int by) {
            if (by == 0) return;
            if (by < 0) over.scale(-1);
            int left = by < 0 ? -by : by;
            int common = commonDivisor(left, over.mod(left));
            if (common < 1) return;
            over.divide(common);
            under.scale(left / common);
        }

        /** Takes away what is common to numbers that were put there from outside. */
        void reduce() {
            if (under.isZero()) return;
            if (under.top < 0) {
                under.scale(-1);
                over.scale(-1);
            }
            boolean isBelow = over.top < 0;
            if (isBelow) over.scale(-1);
            Big common = sharedDivisor();
            low.copy(under);
            low.divideBy(common, times);
            under.copy(times);
            low.copy(over);
            low.divideBy(common, times);
            over.copy(times);
            if (isBelow) over.scale(-1);
        }

        private Big sharedDivisor() {
            Big one = high;
            Big two = low;
            one.copy(over);
            two.copy(under);
            // two steps halve the number at least: a limit far above what the room can hold
            for (int i = 0; i < 6000 && !two.isZero(); i++) {
                one.divideBy(two, times);
                Big rest = one;
                one = two;
                two = rest;
            }
            high.copy(one);
            return high;
        }

        void put(StringBuilder out) {
            over.put(out);
            if (isWhole()) return;
            out.append('/');
            under.put(out);
        }
    }

    // ---- sequences

    /** A RECURRENCE; nobody changes one that has a NAME. */
    private static final class Recurrence {
        final int order;
        /** c(1) at 0. */
        final int[] factors;
        final int[] first;
        /** The SHORTEST recurrence, if it is another one. */
        Recurrence least;
        boolean isLeastLong;
        boolean isSeenSound;
        boolean isDigested;
        long digested;

        Recurrence(int order) {
            this.order = order < 0 ? 0 : order;
            factors = new int[this.order];
            first = new int[this.order];
        }

        Recurrence shortest() {
            return least == null ? this : least;
        }

        boolean goesBack() {
            return last() != 0;
        }

        /** c(k), and with the ORDER 0 any number that is not 0. */
        int last() {
            return order == 0 ? 1 : factors[order - 1];
        }

        /** p(n) of the FRACTION above 1, -c(1), ..., -c(k). */
        long above(int n) {
            if (n < 0 || n >= order) return 0;
            long sum = first[n];
            for (int j = 1; j <= n; j++) sum -= (long) factors[j - 1] * first[n - j];
            return sum;
        }

        boolean isLong() {
            for (int i = 0; i < order; i++) {
                if (factors[i] < -MOST_FACTOR || factors[i] > MOST_FACTOR) return true;
                if (first[i] < -MOST_FIRST || first[i] > MOST_FIRST) return true;
            }
            return false;
        }
    }

    /** The SEQUENCES and WINDING ahead of a CHANGE, as far as it could touch them. */
    private static final class Change {
        final int name;
        final Recurrence sequence;
        final Winding winding;

        Change(int name, Recurrence sequence, Winding winding) {
            this.name = name;
            this.sequence = sequence;
            this.winding = winding;
        }
    }

    /** The TERMS from 0 on of the recurrence that was started last, as many as were asked for. */
    private static final class Row {
        final Big[] terms;
        private Recurrence of;
        private int known;

        Row(int count, int room) {
            terms = bigs(count < 1 ? 1 : count, room);
        }

        void start(Recurrence recurrence) {
            if (of == recurrence) return;
            of = recurrence;
            known = 0;
        }

        Big at(int n) {
            int last = n < 0 ? 0 : n < terms.length ? n : terms.length - 1;
            if (of == null) return terms[last];
            for (; known <= last; known++) {
                terms[known].set(known < of.order ? of.first[known] : 0);
                for (int i = 0; i < of.order && known >= of.order; i++) {
                    terms[known].addTimes(terms[known - 1 - i], of.factors[i], 0);
                }
            }
            return terms[last];
        }
    }

    /** Steps to the TERMS behind 0; a(n) stands in the window at n MOD k. */
    private static final class Back {
        private final Big[] window = bigs(MOST_ORDER, ROOM);
        private final Big nothing = new Big(1);

        /** a(-steps) times c(k)^steps, of one that GOES BACK: so all on the way there are whole. */
        Big scaled(Recurrence a, int steps) {
            int order = start(a);
            if (order == 0) return nothing;
            int slot = 0;
            for (int n = 1; n <= steps; n++) {
                slot = Math.floorMod(-n, order);
                stepBack(a, order, slot);
                for (int i = 0; i < order; i++) {
                    if (i != slot) window[i].scale(a.last());
                }
            }
            return window[slot];
        }

        /** How many of a(-1) to a(-30) are whole, from a(-1) on. */
        int wholeOnes(Recurrence a) {
            if (!a.goesBack()) return 0;
            int order = start(a);
            if (order == 0) return 30;
            int by = a.last() < 0 ? -a.last() : a.last();
            for (int n = 1; n <= 30; n++) {
                Big term = window[Math.floorMod(-n, order)];
                stepBack(a, order, Math.floorMod(-n, order));
                if (term.mod(by) != 0) return n - 1;
                term.divide(by);
                if (a.last() < 0) term.scale(-1);
            }
            return 30;
        }

        private int start(Recurrence a) {
            int order = a.order < window.length ? a.order : window.length;
            for (int i = 0; i < order; i++) window[i].set(a.first[i]);
            return order;
        }

        /** The term k places ahead less what all but c(k) tell of it: that is c(k) times the one behind. */
        private void stepBack(Recurrence a, int order, int slot) {
            for (int i = 1; i < order; i++) {
                window[slot].addTimes(window[Math.floorMod(slot - i, order)], -a.factors[i - 1], 0);
            }
        }
    }

    /**
     * TERMS by squaring: powers of x, less multiples of x^k - c(1) * x^(k - 1) - ... - c(k), so that of each a sum
     * of x^0 to x^(k - 1) is left, in which a(i) stands for x^i.
     */
    private static final class Squaring {
        private static final int BASE_ROW = LAST_SQUARED + 1;

        /** The one with the exponent n from n * MOST_ORDER on; what is raised in the last row. */
        private final Big[] powers = bigs((BASE_ROW + 1) * MOST_ORDER, SHORT_ROOM);
        private final Big[] wide = bigs(2 * MOST_ORDER, SHORT_ROOM);
        private final Big told = new Big(SHORT_ROOM);

        /** What is raised is x. */
        void startAhead(Recurrence a) {
            for (int i = 0; i < a.order; i++) at(BASE_ROW, i).set(0);
            if (a.order == 1) at(BASE_ROW, 0).set(a.factors[0]);
            if (a.order > 1) at(BASE_ROW, 1).set(1);
        }

        /** What is raised is c(k) times x^-1, so that all is whole. */
        void startBack(Recurrence a) {
            for (int i = 1; i < a.order; i++) at(BASE_ROW, a.order - 1 - i).set(-a.factors[i - 1]);
            if (a.order > 0) at(BASE_ROW, a.order - 1).set(1);
        }

        /** Each power, up to the last, by that with half the exponent. */
        void raise(Recurrence a, int last) {
            for (int i = 0; i < a.order; i++) at(0, i).set(i == 0 ? 1 : 0);
            for (int n = 1; n <= last && n <= LAST_SQUARED; n++) {
                multiply(a, n / 2, n / 2, n);
                if (n % 2 == 1) multiply(a, n, BASE_ROW, n);
            }
        }

        /** Whether what was raised last says of the exponent n that it is this TERM. */
        boolean isLike(Recurrence a, int n, Big term) {
            told.set(0);
            for (int i = 0; i < a.order; i++) told.addTimes(at(n, i), a.first[i], 0);
            return told.isLike(term);
        }

        private void multiply(Recurrence a, int left, int right, int to) {
            int order = a.order < MOST_ORDER ? a.order : MOST_ORDER;
            for (int i = 0; i < wide.length; i++) wide[i].set(0);
            for (int i = 0; i < order; i++) {
                for (int j = 0; j < order; j++) wide[i + j].addProduct(at(left, i), at(right, j));
            }
            for (int d = 2 * order - 2; d >= order; d--) {
                // x^d is c(1) * x^(d - 1) + ... + c(k) * x^(d - k), so those take its place
                for (int i = 1; i <= order; i++) wide[d - i].addTimes(wide[d], a.factors[i - 1], 0);
            }
            for (int i = 0; i < order; i++) at(to, i).copy(wide[i]);
        }

        private Big at(int row, int i) {
            int place = row * MOST_ORDER + i;
            return powers[place >= 0 && place < powers.length ? place : 0];
        }
    }

    /** WINDING: u, v, r, s, y, z, f, g, and how many terms they tell. */
    private static final class Winding {
        final int[] numbers = new int[WINDERS];
        final int count;

        Winding(int[] from) {
            for (int i = 0; i < WINDERS && i < from.length; i++) numbers[i] = from[i];
            int n = 2;
            while (n <= LAST_WOUND && numbers[0] + numbers[1] * n != 0) n++;
            count = n;
        }

        int divisor(int n) {
            return numbers[0] + numbers[1] * n;
        }

        /** w(n), or the sum of w(0) to w(n), times divisor(2) to divisor(n): so all on the way there are whole. */
        Big scaled(int n, boolean isSum, Big[] rooms) {
            if (rooms.length < 4) return new Big(1);
            Big latest = rooms[0];
            Big older = rooms[1];
            Big next = rooms[2];
            Big sum = rooms[3];
            latest.set(numbers[6]);
            sum.set(numbers[6]);
            for (int i = 1; i <= n; i++) {
                next.set(i == 1 ? numbers[7] : 0);
                if (i > 1) {
                    int behind = i == 2 ? 1 : divisor(i - 1);
                    next.addTimes(latest, numbers[2] + numbers[3] * i, 0);
                    next.addTimes(older, (numbers[4] + numbers[5] * i) * behind, 0);
                    sum.scale(divisor(i));
                }
                sum.addTimes(next, 1, 0);
                Big free = older;
                older = latest;
                latest = next;
                next = free;
            }
            return isSum ? sum : latest;
        }
    }

    // ---- by a number

    /** What is asked of REMAINDERS. */
    private static final class Remainders {
        private static final int LAST_ROW = 1000;
        private static final int SLOTS = 2003;

        int tail;
        int period;
        /** What they are of, and by which number. */
        private Recurrence turned;
        private int turnedBy;
        private final int[] rests = new int[LAST_ROW + MOST_ORDER + 1];
        /** Each ROW as one number; and, by such a number, in which slot a ROW stands, with 1 more. */
        private final long[] codes = new long[LAST_ROW + 1];
        private final int[] slots = new int[SLOTS];
        private final long[] power = new long[MOST_ORDER];
        private final long[] base = new long[MOST_ORDER];
        private final long[] wide = new long[2 * MOST_ORDER];

        /** Tells TAIL and PERIOD. */
        void turn(Recurrence a, int m) {
            if (m < 1 || a.order > MOST_ORDER || turned == a && turnedBy == m) return;
            turned = a;
            turnedBy = m;
            tail = NONE;
            period = NONE;
            Arrays.fill(slots, 0);
            long code = 0;
            long highest = 1;
            for (int i = 0; i < a.order - 1; i++) {
                code = code * m + restAt(a, m, i);
                highest *= m;
            }
            for (int n = 0; n <= LAST_ROW; n++) {
                long last = a.order == 0 ? 0 : restAt(a, m, n + a.order - 1);
                code = highest < 1 ? last : code % highest * m + last;
                int like = enter(n, code);
                if (like < n) {
                    tail = like;
                    period = n - like;
                    return;
                }
            }
        }

        /** The number of the ROW like this one; this one, if it is the first. */
        private int enter(int n, long code) {
            int slot = (int) (code % SLOTS);
            for (int i = 0; i < SLOTS && slots[slot] != 0; i++) {
                int like = slots[slot] - 1;
                if (codes[like] == code) return like;
                slot = slot + 1 < SLOTS ? slot + 1 : 0;
            }
            slots[slot] = n + 1;
            codes[n] = code;
            return n;
        }

        /** Whether ROWS TAIL and TAIL + PERIOD are alike, if they are there. */
        boolean isTurning(Recurrence a, int m) {
            turned = null;
            turn(a, m);
            if (tail == NONE) return true;
            for (int i = 0; i < a.order && tail + period + i < rests.length; i++) {
                if (rests[tail + i] != rests[tail + period + i]) return false;
            }
            return true;
        }

        int firstZero(Recurrence a, int m) {
            for (int n = 0; n <= LAST_ROW; n++) {
                if (restAt(a, m, n) == 0) return n;
            }
            return NONE;
        }

        /** a(n) MOD m, those ahead of it being told. */
        private int restAt(Recurrence a, int m, int n) {
            if (m < 1 || n < 0 || n >= rests.length) return 0;
            long sum = 0;
            if (n < a.order) sum = a.first[n];
            else for (int i = 0; i < a.order; i++) sum += (long) a.factors[i] * rests[n - 1 - i];
            rests[n] = (int) Math.floorMod(sum, (long) m);
            return rests[n];
        }

        /** a(n) MOD m, with n below 0 BACK BY m (or JAMMED), by squaring as the class Squaring tells. */
        int far(Recurrence a, int n, int m) {
            if (m < 1 || a.order < 1 || a.order > MOST_ORDER) return 0;
            long turn = n < 0 ? inverse(a.last(), m) : 0;
            if (turn == NONE) return JAMMED;
            Arrays.fill(base, 0);
            if (n >= 0 && a.order == 1) base[0] = Math.floorMod((long) a.factors[0], (long) m);
            if (n >= 0 && a.order > 1) base[1] = 1 % m;
            for (int i = 1; n < 0 && i < a.order; i++) {
                base[a.order - 1 - i] = Math.floorMod(-turn * a.factors[i - 1], (long) m);
            }
            if (n < 0) base[a.order - 1] = turn;
            Arrays.fill(power, 0);
            power[0] = 1 % m;
            int steps = n < 0 ? -n : n;
            for (int bit = 16; bit >= 0; bit--) {
                multiply(a, m, power);
                if ((steps >> bit & 1) == 1) multiply(a, m, base);
            }
            long sum = 0;
            for (int i = 0; i < a.order; i++) sum += power[i] * a.first[i];
            return (int) Math.floorMod(sum, (long) m);
        }

        private void multiply(Recurrence a, int m, long[] by) {
            int order = a.order < MOST_ORDER ? a.order : MOST_ORDER;
            if (m < 1 || by.length < order) return;
            Arrays.fill(wide, 0);
            for (int i = 0; i < order; i++) {
                for (int j = 0; j < order; j++) wide[i + j] += power[i] * by[j];
            }
            for (int d = 2 * order - 2; d >= order; d--) {
                long high = wide[d] % m;
                for (int i = 1; i <= order; i++) wide[d - i] += high * a.factors[i - 1];
            }
            for (int i = 0; i < order; i++) power[i] = Math.floorMod(wide[i], (long) m);
        }
    }

    /**
     * The SHORTEST recurrence BY A PRIME, term by term (Berlekamp and Massey): one that fails at a term is bent by
     * an earlier one that failed.
     */
    private static final class Massey {
        private final long[] now = new long[PLACES + 1];
        private final long[] before = new long[PLACES + 1];
        private final long[] kept = new long[PLACES + 1];
        private int prime = 2;
        int order;
        /** The highest ORDER on the way that was SURE by all terms: the order itself, if it is. */
        int sureOrder;
        /** The term at which a recurrence of that ORDER failed; how many there are, if none did. */
        int failed;
        /** The determinant of t(i + j), i and j below that ORDER: never 0, and no higher ORDER has one. */
        long determinant;

        void find(int[] terms, int count, int by) {
            if (by < 2) return;
            prime = by;
            order = 0;
            sureOrder = 0;
            failed = count;
            determinant = 1;
            Arrays.fill(now, 0);
            Arrays.fill(before, 0);
            now[0] = 1;
            before[0] = 1;
            long scale = 1;
            int behind = 1;
            for (int n = 0; n < count && n < terms.length && n < PLACES; n++, behind++) {
                long miss = missAt(terms, n);
                if (miss == 0) continue;
                boolean isRising = 2 * order <= n;
                System.arraycopy(now, 0, kept, 0, kept.length);
                bend(miss * inverse(scale, prime) % prime, behind);
                if (!isRising) continue;
                System.arraycopy(kept, 0, before, 0, before.length);
                scale = miss;
                behind = 0;
                rise(n, count, miss);
            }
        }

        private long missAt(int[] terms, int n) {
            long miss = 0;
            for (int i = 0; i <= order && i <= n; i++) miss = (miss + now[i] * terms[n - i]) % prime;
            return miss;
        }

        private void bend(long times, int behind) {
            for (int i = 0; i + behind < now.length; i++) {
                now[i + behind] = Math.floorMod(now[i + behind] - times * before[i], (long) prime);
            }
        }

        private void rise(int n, int count, long miss) {
            int higher = n + 1 - order;
            if (2 * higher > count) {
                failed = n;
            } else {
                // the determinant grows by a square with the miss on its rising diagonal and 0 ahead of that
                for (int i = 0; i < higher - order; i++) {
                    determinant = determinant * (i % 2 == 0 ? miss : prime - miss) % prime;
                }
                sureOrder = higher;
            }
            order = higher;
        }

        /** f(k), as a number from 0 on. */
        long factorBy(int k) {
            return k >= 0 && k < now.length ? Math.floorMod(-now[k], (long) prime) : 0;
        }

        long factorNearZero(int k) {
            long factor = factorBy(k);
            return 2 * factor > prime ? factor - prime : factor;
        }
    }

    /**
     * The SHORTEST recurrence of the DESK over fractions. Each f(k) is a determinant of numbers of the DESK divided
     * by that of Massey; none of them (with 9 rows at most) reaches 2^75, so three primes tell them, and which are 0.
     */
    private static final class Found {
        private static final int NEEDED = 3;

        int order;
        boolean isSure;
        private boolean isKnown;
        private final Massey massey = new Massey();
        private final int[] rests = new int[PLACES];
        private final int[] primes = new int[NEEDED];
        /** By each of the primes: the determinant that divides, then those that are divided. */
        private final long[][] determinants = new long[NEEDED][MOST_ORDER + 1];
        private final Big part = new Big(16);
        private final Big whole = new Big(16);

        void forget() {
            isKnown = false;
        }

        void look(int[] numbers, int count) {
            if (isKnown) return;
            int highest = NONE;
            int failed = count;
            int good = 0;
            for (int i = 0; i < PRIMES.length && good < NEEDED; i++) {
                lookBy(numbers, count, PRIMES[i]);
                if (massey.sureOrder < highest) continue;
                if (massey.sureOrder > highest) {
                    highest = massey.sureOrder;
                    failed = count;
                    good = 0;
                }
                if (massey.failed < failed) failed = massey.failed;
                keep(good, PRIMES[i]);
                good++;
            }
            isSure = failed == count;
            order = isSure ? highest : failed + 1 - highest;
            isKnown = true;
        }

        private void lookBy(int[] numbers, int count, int prime) {
            for (int n = 0; n < count && n < rests.length; n++) {
                rests[n] = numbers[n] < 0 ? numbers[n] + prime : numbers[n];
            }
            massey.find(rests, count, prime);
        }

        private void keep(int at, int prime) {
            if (at < 0 || at >= NEEDED || prime < 1) return;
            primes[at] = prime;
            for (int k = 0; k <= MOST_ORDER; k++) {
                long times = k == 0 ? 1 : massey.factorBy(k);
                determinants[at][k] = massey.determinant * times % prime;
            }
        }

        /** f(k), if it is SURE, not reduced yet. */
        void factorInto(int k, Ratio ratio) {
            if (k < 1 || k > MOST_ORDER) return;
            join(k, ratio.over);
            join(0, ratio.under);
        }

        /** The number nearest to 0 that is by each of the three primes what they tell. */
        private void join(int k, Big to) {
            int p = primes[0];
            int q = primes[1];
            int r = primes[2];
            if (p < 2 || q < 2 || r < 2) return;
            long first = determinants[0][k];
            long second = Math.floorMod(determinants[1][k] - first, (long) q) * inverse(p, q) % q;
            long last = Math.floorMod(determinants[2][k] - first, (long) r) * inverse(p, r) % r;
            last = Math.floorMod(last - second, (long) r) * inverse(q, r) % r;
            to.set(last);
            to.scale(q);
            part.set(second);
            to.addTimes(part, 1, 0);
            to.scale(p);
            part.set(first);
            to.addTimes(part, 1, 0);
            whole.set(p);
            whole.scale(q);
            whole.scale(r);
            part.copy(to);
            part.scale(2);
            part.addTimes(whole, -1, 0);
            if (part.top == 0) to.addTimes(whole, -1, 0);
        }
    }
}
