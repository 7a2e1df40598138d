import java.math.BigInteger;
import java.util.ArrayDeque;
import java.util.ArrayList;
import java.util.Arrays;
import java.util.List;

/**
 * What the document says, by its plainest words and with numbers of any length: fractions in every step, linear
 * systems for what is SHORTEST, steps one by one for all that is far away. Slow, and shares nothing with the class.
 */
public final class Plain {
    static final int NONE = -1;
    static final int CROOKED = -5;
    static final int BROKEN = -6;
    static final int UNSURE = -7;
    static final int JAMMED = -9;

    /** A fraction without common divisors, above 0 below its line. */
    static final class Frac {
        static final Frac ZERO = new Frac(BigInteger.ZERO, BigInteger.ONE);
        final BigInteger p;
        final BigInteger q;

        Frac(BigInteger over, BigInteger under) {
            BigInteger g = over.gcd(under);
            if (under.signum() < 0) g = g.negate();
            p = over.divide(g);
            q = under.divide(g);
        }

        static Frac of(long n) {
            return new Frac(BigInteger.valueOf(n), BigInteger.ONE);
        }

        static Frac of(BigInteger n) {
            return new Frac(n, BigInteger.ONE);
        }

        Frac plus(Frac o) {
            return new Frac(p.multiply(o.q).add(o.p.multiply(q)), q.multiply(o.q));
        }

        Frac minus(Frac o) {
            return new Frac(p.multiply(o.q).subtract(o.p.multiply(q)), q.multiply(o.q));
        }

        Frac times(Frac o) {
            return new Frac(p.multiply(o.p), q.multiply(o.q));
        }

        Frac over(Frac o) {
            return new Frac(p.multiply(o.q), q.multiply(o.p));
        }

        boolean isZero() {
            return p.signum() == 0;
        }

        boolean isWhole() {
            return q.equals(BigInteger.ONE);
        }

        @Override
        public String toString() {
            return isWhole() ? p.toString() : p + "/" + q;
        }
    }

    static final class Rec {
        final List<BigInteger> c;
        final List<BigInteger> first;

        Rec(List<BigInteger> c, List<BigInteger> first) {
            this.c = c;
            this.first = first;
        }

        int order() {
            return c.size();
        }

        boolean goesBack() {
            return order() == 0 || c.get(order() - 1).signum() != 0;
        }

        boolean isLong() {
            for (BigInteger f : c) if (f.abs().toString().length() > 6) return true;
            for (BigInteger f : first) if (f.abs().toString().length() > 9) return true;
            return false;
        }

        List<BigInteger> terms(int count) {
            List<BigInteger> t = new ArrayList<>();
            for (int n = 0; n < count; n++) {
                if (n < order()) {
                    t.add(first.get(n));
                    continue;
                }
                BigInteger s = BigInteger.ZERO;
                for (int i = 1; i <= order(); i++) s = s.add(c.get(i - 1).multiply(t.get(n - i)));
                t.add(s);
            }
            return t;
        }

        /** a(-1), a(-2), ...: so many. */
        List<Frac> behind(int count) {
            List<Frac> window = new ArrayList<>();
            for (BigInteger f : first) window.add(Frac.of(f));
            List<Frac> told = new ArrayList<>();
            int k = order();
            for (int n = 0; n < count; n++) {
                if (k == 0) {
                    told.add(Frac.ZERO);
                    continue;
                }
                Frac s = window.get(k - 1);
                for (int i = 1; i < k; i++) s = s.minus(Frac.of(c.get(i - 1)).times(window.get(k - 1 - i)));
                s = s.over(Frac.of(c.get(k - 1)));
                told.add(s);
                window.add(0, s);
                window.remove(k);
            }
            return told;
        }

        Rec shortest() {
            return Plain.shortest(terms(2 * order()));
        }
    }

    // ---- the shortest recurrence, by its definition

    /** f(1) to f(L) with t(n) = f(1) * t(n - 1) + ... for all n from L on; null, if there are none. */
    static Frac[] solve(List<BigInteger> t, int order) {
        int rows = t.size() - order;
        Frac[][] m = new Frac[rows][order + 1];
        for (int r = 0; r < rows; r++) {
            for (int i = 1; i <= order; i++) m[r][i - 1] = Frac.of(t.get(order + r - i));
            m[r][order] = Frac.of(t.get(order + r));
        }
        int[] pivot = new int[order];
        Arrays.fill(pivot, -1);
        int at = 0;
        for (int col = 0; col < order && at < rows; col++) {
            int p = at;
            while (p < rows && m[p][col].isZero()) p++;
            if (p == rows) continue;
            Frac[] swap = m[p];
            m[p] = m[at];
            m[at] = swap;
            for (int r = 0; r < rows; r++) {
                if (r == at || m[r][col].isZero()) continue;
                Frac q = m[r][col].over(m[at][col]);
                for (int j = col; j <= order; j++) m[r][j] = m[r][j].minus(q.times(m[at][j]));
            }
            pivot[col] = at;
            at++;
        }
        for (int r = at; r < rows; r++) if (!m[r][order].isZero()) return null;
        Frac[] f = new Frac[order];
        for (int col = 0; col < order; col++) {
            f[col] = pivot[col] < 0 ? Frac.ZERO : m[pivot[col]][order].over(m[pivot[col]][col]);
        }
        return f;
    }

    static Frac[] shortestFactors(List<BigInteger> t) {
        for (int order = 0; order <= t.size(); order++) {
            Frac[] f = solve(t, order);
            if (f != null) return f;
        }
        throw new AssertionError("the order of all terms tells them");
    }

    static Rec shortest(List<BigInteger> t) {
        Frac[] f = shortestFactors(t);
        List<BigInteger> c = new ArrayList<>();
        for (Frac x : f) {
            if (!x.isWhole()) throw new AssertionError("not whole: " + Arrays.toString(f) + " of " + t);
            c.add(x.p);
        }
        return new Rec(c, new ArrayList<>(t.subList(0, f.length)));
    }

    /** The same by a prime; the first number is 1 if there is such a recurrence. */
    static int[] solveBy(List<Integer> t, int order, int p) {
        int rows = t.size() - order;
        int[][] m = new int[rows][order + 1];
        for (int r = 0; r < rows; r++) {
            for (int i = 1; i <= order; i++) m[r][i - 1] = Math.floorMod(t.get(order + r - i), p);
            m[r][order] = Math.floorMod(t.get(order + r), p);
        }
        int[] pivot = new int[order];
        Arrays.fill(pivot, -1);
        int at = 0;
        for (int col = 0; col < order && at < rows; col++) {
            int k = at;
            while (k < rows && m[k][col] == 0) k++;
            if (k == rows) continue;
            int[] swap = m[k];
            m[k] = m[at];
            m[at] = swap;
            int inv = 1;
            while (inv * m[at][col] % p != 1) inv++;
            for (int j = 0; j <= order; j++) m[at][j] = m[at][j] * inv % p;
            for (int r = 0; r < rows; r++) {
                if (r == at) continue;
                int q = m[r][col];
                for (int j = 0; j <= order; j++) m[r][j] = Math.floorMod(m[r][j] - q * m[at][j], p);
            }
            pivot[col] = at;
            at++;
        }
        for (int r = at; r < rows; r++) if (m[r][order] != 0) return null;
        int[] f = new int[order];
        for (int col = 0; col < order; col++) f[col] = pivot[col] < 0 ? 0 : m[pivot[col]][order];
        return f;
    }

    // ---- the state

    private final List<Integer> desk = new ArrayList<>();
    private Rec[] seqs = new Rec[26];
    private int[] winding;
    private final ArrayDeque<Object[]> changes = new ArrayDeque<>();
    private int knocks;

    private void change() {
        changes.addLast(new Object[] {seqs.clone(), winding});
        if (changes.size() > 10) changes.removeFirst();
    }

    private Rec seq(int name) {
        if (!has(name)) throw new IndexOutOfBoundsException();
        return seqs[name];
    }

    private static void require(boolean ok) {
        if (!ok) throw new IllegalArgumentException();
    }

    private static void state(boolean ok) {
        if (!ok) throw new IllegalStateException();
    }

    private static boolean in(int x, int from, int to) {
        return x >= from && x <= to;
    }

    private int count() {
        int n = 0;
        for (Rec r : seqs) if (r != null) n++;
        return n;
    }

    private List<BigInteger> deskTerms() {
        List<BigInteger> t = new ArrayList<>();
        for (int x : desk) t.add(BigInteger.valueOf(x));
        return t;
    }

    private int make(int name, List<BigInteger> terms) {
        Rec r = shortest(terms);
        state(!r.isLong());
        change();
        seqs[name] = r;
        return r.order();
    }

    public int lay(int many, int a, int b, int c, int d, int e) {
        require(in(many, 1, 5));
        int[] all = {a, b, c, d, e};
        for (int i = 0; i < many; i++) require(in(all[i], -99, 99));
        state(desk.size() + many <= 16);
        for (int i = 0; i < many; i++) desk.add(all[i]);
        return desk.size();
    }

    public int sweep() {
        int n = desk.size();
        desk.clear();
        return n;
    }

    private static List<BigInteger> bigs(int... x) {
        List<BigInteger> l = new ArrayList<>();
        for (int i : x) l.add(BigInteger.valueOf(i));
        return l;
    }

    public int two(int name, int c, int d, int first, int second) {
        require(in(name, 0, 25) && in(c, -99, 99) && in(d, -99, 99) && in(first, -99, 99) && in(second, -99, 99));
        change();
        seqs[name] = new Rec(bigs(c, d), bigs(first, second));
        return count();
    }

    public int tell(int name, int order) {
        require(in(name, 0, 25) && in(order, 0, 4));
        state(desk.size() >= 2 * order);
        change();
        seqs[name] = new Rec(new ArrayList<>(deskTerms().subList(0, order)), new ArrayList<>(deskTerms().subList(order, 2 * order)));
        return count();
    }

    public int adopt(int name) {
        require(in(name, 0, 25));
        Frac[] f = shortestFactors(deskTerms());
        if (2 * f.length > desk.size()) return UNSURE;
        List<BigInteger> c = new ArrayList<>();
        for (Frac x : f) {
            if (!x.isWhole()) return BROKEN;
            c.add(x.p);
        }
        Rec r = new Rec(c, new ArrayList<>(deskTerms().subList(0, f.length)));
        state(!r.isLong());
        change();
        seqs[name] = r;
        return r.order();
    }

    public int combine(int name, int one, int other, int how) {
        Rec a = seq(one);
        Rec b = seq(other);
        require(in(name, 0, 25) && in(how, 0, 4));
        int bound = how == 2 ? a.order() * b.order() : a.order() + b.order();
        state(bound <= 8);
        List<BigInteger> s = a.terms(2 * bound + 1);
        List<BigInteger> t = b.terms(2 * bound + 1);
        if (how == 4 && !t.get(0).abs().equals(BigInteger.ONE)) return CROOKED;
        List<BigInteger> made = new ArrayList<>();
        for (int n = 0; n < 2 * bound; n++) {
            BigInteger x = BigInteger.ZERO;
            if (how == 0) x = s.get(n).add(t.get(n));
            if (how == 1) x = s.get(n).subtract(t.get(n));
            if (how == 2) x = s.get(n).multiply(t.get(n));
            if (how == 3) for (int j = 0; j <= n; j++) x = x.add(s.get(j).multiply(t.get(n - j)));
            if (how == 4) {
                x = s.get(n);
                for (int j = 0; j < n; j++) x = x.subtract(made.get(j).multiply(t.get(n - j)));
                x = x.divide(t.get(0));
            }
            made.add(x);
        }
        return make(name, made);
    }

    public int derive(int name, int one, int how, int x) {
        Rec a = seq(one);
        require(in(name, 0, 25) && in(how, 0, 6));
        int[] low = {0, 0, 1, 0, -9, 1, -9};
        int[] high = {0, 0, 6, 20, 9, 8, 9};
        require(in(x, low[how], high[how]));
        int k = a.order();
        int bound = how == 0 ? k + 1 : how == 5 ? k * x : how == 6 ? 2 * k : k;
        state(bound <= 8);
        List<BigInteger> t = a.terms(120);
        List<BigInteger> made = new ArrayList<>();
        BigInteger sum = BigInteger.ZERO;
        for (int n = 0; n < 2 * bound; n++) {
            sum = sum.add(t.get(n));
            BigInteger y = BigInteger.ZERO;
            if (how == 0) y = sum;
            if (how == 1) y = t.get(n + 1).subtract(t.get(n));
            if (how == 2) y = t.get(x * n);
            if (how == 3) y = t.get(n + x);
            if (how == 4) y = t.get(n).multiply(BigInteger.valueOf(x));
            if (how == 5 && n % x == 0) y = t.get(n / x);
            if (how == 6) y = t.get(n).multiply(BigInteger.valueOf(n + x));
            made.add(y);
        }
        return make(name, made);
    }

    public int machine(int name, int states, int letters, int set) {
        require(in(name, 0, 25) && in(states, 1, 4) && in(letters, 1, 4) && in(set, 0, (1 << states) - 1));
        state(desk.size() >= states * letters);
        for (int i = 0; i < states * letters; i++) if (!in(desk.get(i), 0, states - 1)) return -100 - i;
        List<BigInteger> made = new ArrayList<>();
        for (int n = 0; n < 2 * states; n++) made.add(BigInteger.valueOf(rows(0, n, letters, set)));
        return make(name, made);
    }

    private long rows(int from, int n, int letters, int set) {
        if (n == 0) return set >> from & 1;
        long s = 0;
        for (int l = 0; l < letters; l++) s += rows(desk.get(from * letters + l), n - 1, letters, set);
        return s;
    }

    public int read(int name, int top) {
        require(in(name, 0, 25) && in(top, 0, 16));
        state(desk.size() > top);
        List<Integer> p = desk.subList(0, top);
        List<Integer> q = desk.subList(top, desk.size());
        int bound = Math.max(top, q.size() - 1);
        state(bound <= 8);
        if (Math.abs(q.get(0)) != 1) return CROOKED;
        List<BigInteger> made = new ArrayList<>();
        for (int n = 0; n < 2 * bound; n++) {
            BigInteger x = BigInteger.valueOf(n < p.size() ? p.get(n) : 0);
            for (int j = 1; j <= n && j < q.size(); j++) x = x.subtract(made.get(n - j).multiply(BigInteger.valueOf(q.get(j))));
            made.add(x.divide(BigInteger.valueOf(q.get(0))));
        }
        return make(name, made);
    }

    public int shorten(int name) {
        Rec a = seq(name);
        Rec s = a.shortest();
        state(!s.isLong());
        change();
        seqs[name] = s;
        return a.order() - s.order();
    }

    public int drop(int name) {
        seq(name);
        change();
        seqs[name] = null;
        return count();
    }

    public int wind() {
        state(desk.size() >= 8);
        change();
        winding = new int[8];
        for (int i = 0; i < 8; i++) winding[i] = desk.get(i);
        return windingTerms().size();
    }

    private List<Frac> windingTerms() {
        List<Frac> w = new ArrayList<>();
        if (winding == null) return w;
        w.add(Frac.of(winding[6]));
        w.add(Frac.of(winding[7]));
        for (int n = 2; n <= 40; n++) {
            long d = winding[0] + (long) winding[1] * n;
            if (d == 0) break;
            Frac s = Frac.of(winding[2] + (long) winding[3] * n).times(w.get(n - 1));
            s = s.plus(Frac.of(winding[4] + (long) winding[5] * n).times(w.get(n - 2)));
            w.add(s.over(Frac.of(d)));
        }
        return w;
    }

    public int undo() {
        state(!changes.isEmpty());
        Object[] had = changes.removeLast();
        seqs = (Rec[]) had[0];
        winding = (int[]) had[1];
        return changes.size();
    }

    public int knock() {
        return ++knocks;
    }

    // ---- asked of sequences

    public String names() {
        StringBuilder s = new StringBuilder();
        for (int i = 0; i < 26; i++) if (seqs[i] != null) s.append("abcdefghijklmnopqrstuvwxyz".charAt(i));
        return s.toString();
    }

    public boolean has(int name) {
        return in(name, 0, 25) && seqs[name] != null;
    }

    public int ofSequence(int name, int what) {
        Rec a = seq(name);
        require(in(what, 0, 4));
        if (what == 0) return a.order();
        if (what == 1) return a.shortest().order();
        if (what == 2) return a.goesBack() ? 1 : 0;
        if (what == 3) {
            if (!a.goesBack()) return 0;
            int n = 0;
            for (Frac f : a.behind(30)) {
                if (!f.isWhole()) return n;
                n++;
            }
            return n;
        }
        int last = NONE;
        List<BigInteger> t = a.terms(31);
        for (int n = 0; n <= 30; n++) if (t.get(n).signum() == 0) last = n;
        return last;
    }

    public String factor(int name, int k) {
        Rec a = seq(name);
        require(in(k, 1, a.order()));
        return a.c.get(k - 1).toString();
    }

    private static String join(List<?> l) {
        StringBuilder s = new StringBuilder();
        for (Object x : l) s.append(s.length() == 0 ? "" : " ").append(x);
        return s.toString();
    }

    public String text(int name) {
        Rec a = seq(name);
        return a.order() == 0 ? "0" : join(a.c) + " ; " + join(a.first);
    }

    public String term(int name, int n) {
        Rec a = seq(name);
        require(in(n, -30, 100));
        if (n >= 0) return a.terms(n + 1).get(n).toString();
        if (!a.goesBack()) return "none";
        return a.behind(-n).get(-n - 1).toString();
    }

    public int termMod(int name, int n, int m) {
        Rec a = seq(name);
        require(in(n, -1000, 100000) && in(m, 1, 999));
        if (n < 0 && !a.goesBack()) return NONE;
        int k = a.order();
        if (k == 0) return 0;
        BigInteger by = BigInteger.valueOf(m);
        long[] c = new long[k];
        long[] w = new long[k];
        for (int i = 0; i < k; i++) {
            c[i] = a.c.get(i).mod(by).longValue();
            w[i] = a.first.get(i).mod(by).longValue();
        }
        if (n >= 0) {
            if (n < k) return (int) w[n];
            for (int i = k; i <= n; i++) {
                long s = 0;
                for (int j = 1; j <= k; j++) s += c[j - 1] * w[k - j];
                System.arraycopy(w, 1, w, 0, k - 1);
                w[k - 1] = s % m;
            }
            return (int) w[k - 1];
        }
        long inverse = -1;
        for (int i = 0; i < m; i++) if (inverse < 0 && i * c[k - 1] % m == 1 % m) inverse = i;
        if (inverse < 0) return JAMMED;
        for (int i = -1; i >= n; i--) {
            long s = w[k - 1];
            for (int j = 1; j < k; j++) s -= c[j - 1] * w[k - 1 - j];
            System.arraycopy(w, 0, w, 1, k - 1);
            w[0] = Math.floorMod(Math.floorMod(s, (long) m) * inverse, (long) m);
        }
        return (int) w[0];
    }

    public String sum(int name, int step, int many) {
        Rec a = seq(name);
        require(in(step, 1, 9) && in(many, 0, 12));
        BigInteger s = BigInteger.ZERO;
        List<BigInteger> t = a.terms(100);
        for (int i = 0; i < many; i++) s = s.add(t.get(i * step));
        return s.toString();
    }

    public String fraction(int name) {
        Rec s = seq(name).shortest();
        if (s.order() == 0) return "0 / 1";
        List<BigInteger> q = new ArrayList<>();
        q.add(BigInteger.ONE);
        for (BigInteger c : s.c) q.add(c.negate());
        List<BigInteger> p = new ArrayList<>();
        for (int n = 0; n < s.order(); n++) {
            BigInteger x = BigInteger.ZERO;
            for (int j = 0; j <= n; j++) x = x.add(q.get(j).multiply(s.first.get(n - j)));
            p.add(x);
        }
        return join(p) + " / " + join(q);
    }

    public int period(int name, int m, boolean isTail) {
        Rec a = seq(name);
        require(in(m, 1, 20));
        List<List<Integer>> rows = new ArrayList<>();
        List<Integer> rests = new ArrayList<>();
        int k = a.order();
        for (int n = 0; n < 1001 + k; n++) {
            long s = 0;
            if (n < k) s = a.first.get(n).longValue();
            else for (int i = 1; i <= k; i++) s += a.c.get(i - 1).longValue() * rests.get(n - i);
            rests.add((int) Math.floorMod(s, (long) m));
        }
        for (int n = 0; n <= 1000; n++) {
            List<Integer> row = rests.subList(n, n + k);
            int like = rows.indexOf(row);
            if (like >= 0) return isTail ? like : n - like;
            rows.add(row);
        }
        return NONE;
    }

    public int divided(int name, int m) {
        Rec a = seq(name);
        require(in(m, 1, 999));
        for (int n = 0; n <= 1000; n++) if (small(a, n, m) == 0) return n;
        return NONE;
    }

    private Rec lastOf;
    private int lastBy;
    private int[] lastRests;

    private int small(Rec a, int n, int m) {
        if (lastOf != a || lastBy != m) {
            lastOf = a;
            lastBy = m;
            lastRests = new int[1001];
            List<BigInteger> t = a.terms(a.order());
            for (int i = 0; i <= 1000; i++) {
                if (i < a.order()) {
                    lastRests[i] = t.get(i).mod(BigInteger.valueOf(m)).intValue();
                } else {
                    long s = 0;
                    for (int j = 1; j <= a.order(); j++) s += a.c.get(j - 1).longValue() * lastRests[i - j];
                    lastRests[i] = (int) Math.floorMod(s, (long) m);
                }
            }
        }
        return lastRests[n];
    }

    public int enough(int kind, int a, int b, int c) {
        int k = seq(a).order();
        int l = seq(b).order();
        int o = kind == 1 || kind == 2 || kind == 3 ? seq(c).order() : 0;
        require(in(kind, 0, 5));
        return kind == 1 || kind == 3 ? k + l + o : kind == 2 ? k * l + o : k + l;
    }

    public int fails(int kind, int a, int b, int c) {
        enough(kind, a, b, c);
        // far more than enough: a mistake in what is enough shows
        int far = kind == 2 ? 90 : 40;
        List<BigInteger> s = seq(a).terms(2 * far + 2);
        List<BigInteger> t = seq(b).terms(far);
        List<BigInteger> u = in(kind, 1, 3) ? seq(c).terms(far) : null;
        for (int n = 0; n < far; n++) {
            BigInteger left = s.get(n);
            BigInteger right = t.get(n);
            if (kind == 1) left = left.add(t.get(n));
            if (kind == 2) left = left.multiply(t.get(n));
            if (kind == 3) {
                left = BigInteger.ZERO;
                for (int j = 0; j <= n; j++) left = left.add(s.get(j).multiply(t.get(n - j)));
            }
            if (kind == 4) left = s.get(n + 1).subtract(left);
            if (kind == 5) left = s.get(2 * n);
            if (in(kind, 1, 3)) right = u.get(n);
            if (!left.equals(right)) return n;
        }
        return NONE;
    }

    // ---- asked of the desk

    public int desk(int place) {
        if (!in(place, 0, desk.size() - 1)) throw new IndexOutOfBoundsException();
        return desk.get(place);
    }

    public int found(int what) {
        require(in(what, 0, 2));
        int order = shortestFactors(deskTerms()).length;
        int n = desk.size();
        if (what == 0) return order;
        if (what == 1) return 2 * order <= n ? 1 : 0;
        int more = 0;
        while (2 * order > n + more) more++;
        return more;
    }

    public String foundFactor(int k) {
        Frac[] f = shortestFactors(deskTerms());
        require(in(k, 1, f.length));
        return 2 * f.length > desk.size() ? "unsure" : f[k - 1].toString();
    }

    public int foundBy(int prime, int k) {
        boolean isPrime = in(prime, 2, 97);
        for (int i = 2; i < prime && isPrime; i++) if (prime % i == 0) isPrime = false;
        require(isPrime);
        int[] f = null;
        for (int order = 0; f == null; order++) f = solveBy(desk, order, prime);
        require(in(k, 0, f.length));
        return k == 0 ? f.length : 2 * f.length > desk.size() ? UNSURE : f[k - 1];
    }

    private List<List<Integer>> differences() {
        List<List<Integer>> rows = new ArrayList<>();
        rows.add(new ArrayList<>(desk));
        while (rows.get(rows.size() - 1).size() > 0) {
            List<Integer> last = rows.get(rows.size() - 1);
            List<Integer> next = new ArrayList<>();
            for (int j = 0; j + 1 < last.size(); j++) next.add(last.get(j + 1) - last.get(j));
            rows.add(next);
        }
        return rows;
    }

    public int difference(int row, int place) {
        List<List<Integer>> rows = differences();
        if (!in(row, 0, rows.size() - 1) || !in(place, 0, rows.get(row).size() - 1)) throw new IndexOutOfBoundsException();
        return rows.get(row).get(place);
    }

    /** The coefficients of the polynomial of the desk, by Lagrange. */
    private Frac[] polynomial() {
        int n = desk.size();
        Frac[] sum = new Frac[n];
        Arrays.fill(sum, Frac.ZERO);
        for (int i = 0; i < n; i++) {
            Frac[] part = new Frac[n];
            Arrays.fill(part, Frac.ZERO);
            part[0] = Frac.of(desk.get(i));
            for (int j = 0; j < n; j++) {
                if (j == i) continue;
                for (int d = n - 1; d >= 0; d--) {
                    Frac x = part[d].times(Frac.of(-j));
                    if (d > 0) x = x.plus(part[d - 1]);
                    part[d] = x.over(Frac.of(i - j));
                }
            }
            for (int d = 0; d < n; d++) sum[d] = sum[d].plus(part[d]);
        }
        return sum;
    }

    public int degree() {
        Frac[] f = polynomial();
        for (int d = f.length - 1; d >= 0; d--) if (!f[d].isZero()) return d;
        return NONE;
    }

    public String value(int n) {
        require(in(n, -50, 100));
        Frac[] f = polynomial();
        Frac s = Frac.ZERO;
        for (int d = f.length - 1; d >= 0; d--) s = s.times(Frac.of(n)).plus(f[d]);
        return s.toString();
    }

    public String wound(int n) {
        require(in(n, 0, 40));
        List<Frac> w = windingTerms();
        return n < w.size() ? w.get(n).toString() : "none";
    }

    public String woundSum(int many) {
        require(in(many, 0, 41));
        List<Frac> w = windingTerms();
        if (many > w.size()) return "none";
        Frac s = Frac.ZERO;
        for (int i = 0; i < many; i++) s = s.plus(w.get(i));
        return s.toString();
    }

    public String powers(int exponent, int n) {
        require(in(exponent, 0, 9) && in(n, 0, 999));
        BigInteger s = BigInteger.ZERO;
        for (int j = 1; j <= n; j++) s = s.add(BigInteger.valueOf(j).pow(exponent));
        return s.toString();
    }

    public int books(int what) {
        require(in(what, 0, 4));
        return new int[] {desk.size(), count(), changes.size(), windingTerms().size(), knocks}[what];
    }

    public boolean isSound() {
        return true;
    }

    public long digest() {
        List<Integer> v = new ArrayList<>();
        for (int i = 0; i <= 4; i++) v.add(books(i));
        v.addAll(desk);
        for (int i = 0; i <= 2; i++) v.add(found(i));
        v.add(foundBy(2, 0));
        v.add(foundBy(7, 0));
        v.add(degree());
        v.add(value(20).length());
        int smallest = -1;
        for (int name = 0; name < 26; name++) {
            if (!has(name)) continue;
            if (smallest < 0) smallest = name;
            v.add(name);
            for (int i = 0; i <= 4; i++) v.add(ofSequence(name, i));
            v.add(text(name).length());
            v.add(fraction(name).length());
            v.add(term(name, 30).length());
            v.add(term(name, -5).length());
            v.add(sum(name, 2, 5).length());
            v.add(termMod(name, 1000, 97));
            v.add(termMod(name, -7, 97));
            v.add(period(name, 6, false));
            v.add(period(name, 6, true));
            v.add(divided(name, 7));
            v.add(fails(0, name, smallest, -1));
        }
        v.add(wound(9).length());
        v.add(woundSum(9).length());
        v.add(isSound() ? 1 : 0);
        long d = 5606;
        for (int x : v) d = d * 31 + x;
        return d;
    }
}
