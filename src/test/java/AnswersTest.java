import java.math.BigInteger;

/** The sentences of the promises 1 to 41 that tell what is answered, as far as they name a boundary case. */
public final class AnswersTest {
    public static void main(String[] args) {
        newObject();
        laying();
        howMany();
        shorterBy();
        wholeOnes();
        lastZero();
        factorsAndTexts();
        terms();
        remainders();
        sums();
        fractionOfNothing();
        divided();
        foundMore();
        powers();
        books();
        sound();
        digestOfNothing();
        digestWraps();
        digestByName();
        digestAgain();
        Checks.end("AnswersTest");
    }

    private static void newObject() {
        Checks.sentence("promise 1: creates an empty desk, and no sequences");
        Backwardterms b = new Backwardterms();
        Checks.due("books", b.books(0) + " " + b.books(1) + " " + b.books(2) + " " + b.books(3) + " " + b.books(4), "0 0 0 0 0");
        Checks.due("names()", b.names(), "");
        Checks.due("sweep()", b.sweep(), 0);
        Checks.due("found", b.found(0) + " " + b.found(1) + " " + b.found(2), "0 1 0");
        Checks.due("isSound()", b.isSound(), true);
        Checks.throwsJust("undo()", Checks.STATE, () -> b.undo());
        Checks.due("what other objects have", Checks.busy(1, 2).books(0) + b.books(0) + new Backwardterms().books(1), 2);
    }

    private static void laying() {
        Checks.sentence("promise 2: lays numbers behind those on the DESK, and returns how many it has then: 1 to 5 at once, to 16");
        for (int many = 1; many <= 5; many++) {
            Backwardterms b = new Backwardterms();
            int had = 0;
            for (; had + many <= 16; had += many) {
                Checks.due("lay(" + many + ")", b.lay(many, had + 1, had + 2, had + 3, had + 4, had + 5), had + many);
            }
            for (int i = 0; i < had; i++) Checks.due("desk(" + i + ")", b.desk(i), i + 1);
            Checks.due("books(0)", b.books(0), had);
            int rest = 16 - had;
            if (rest > 0) Checks.due("lay(" + rest + ")", b.lay(rest, 77, 77, 77, 77, 77), 16);
        }
        Checks.sentence("promise 3: sweeps the DESK: it is empty; returns how many numbers it had: 0 to 16");
        for (int count = 0; count <= 16; count++) {
            int[] numbers = new int[count];
            if (count > 0) numbers[count - 1] = 7;
            Backwardterms b = Checks.busy(numbers);
            Checks.due("found(0)", b.found(0), count);
            Checks.due("sweep()", b.sweep(), count);
            Checks.due("asked of it", b.found(0) + " " + b.foundBy(5, 0) + " " + b.degree() + " " + b.value(9) + " " + b.books(0), "0 0 -1 0 0");
            for (int place = 0; place <= 16; place++) {
                int at = place;
                Checks.throwsJust("desk(" + at + ")", Checks.INDEX, () -> b.desk(at));
                Checks.throwsJust("difference(0, " + at + ")", Checks.INDEX, () -> b.difference(0, at));
            }
            Checks.due("sweep() again", b.sweep(), 0);
        }
    }

    private static void howMany() {
        Checks.sentence("promises 4, 5, 12: returns how many SEQUENCES there are then, from 0 to 26");
        Backwardterms b = Checks.withDesk(1, 1);
        for (int name = 25; name >= 0; name--) {
            Checks.due("tell", b.tell(name, 1), 26 - name);
            Checks.due("two again", b.two(name, 1, 1, 1, 1), 26 - name);
            Checks.due("tell again", b.tell(name, 0), 26 - name);
        }
        Checks.due("names()", b.names(), "abcdefghijklmnopqrstuvwxyz");
        for (int name = 0; name < 26; name++) {
            Checks.due("drop", b.drop(name), 25 - name);
            Checks.due("books(1)", b.books(1), 25 - name);
            Checks.due("has", b.has(name), false);
        }
        Checks.due("names()", b.names(), "");
        Checks.sentence("promise 17: any number");
        for (int any : new int[] {-1, 0, 25, 26, 100, Integer.MAX_VALUE, Integer.MIN_VALUE}) Checks.due("has", b.has(any), false);
        b.two(0, 0, 0, 0, 0);
        b.two(25, 0, 0, 0, 0);
        for (int any : new int[] {-1, 26, 256, 1 << 31 | 25}) Checks.due("has", b.has(any), false);
        Checks.due("has", b.has(0) && b.has(25), true);
    }

    private static void shorterBy() {
        Checks.sentence("promise 11: returns by how much its ORDER is less then: 0, and all of it");
        Backwardterms b = Checks.busy();
        int[] names = {0, 1, 2, 3, 4, 5, 6, 7, 8, 25};
        int[] less = {0, 0, 0, 0, 0, 0, 4, 0, 0, 0};
        for (int i = 0; i < names.length; i++) {
            Checks.due("shorten(" + names[i] + ")", b.shorten(names[i]), less[i]);
            Checks.due("ORDER", b.ofSequence(names[i], 0), b.ofSequence(names[i], 1));
        }
        Checks.due("text", b.text(6), "0");
    }

    // ---- asked of sequences

    private static void wholeOnes() {
        Checks.sentence("promise 18, 3: how many of a(-1), ..., a(-30) are whole one behind the other, from a(-1) on");
        Backwardterms b = new Backwardterms();
        b.two(0, 0, 2, 1, 1);
        b.derive(0, 0, 3, 20);
        b.derive(1, 0, 3, 10);
        Checks.due("a(-30) is 1", b.text(1) + ", " + b.term(1, -30) + ", " + b.ofSequence(1, 3), "0 2 ; 32768 32768, 1, 30");
        b.derive(2, 0, 3, 9);
        Checks.due("a(-30) is 1/2", b.text(2) + ", " + b.term(2, -30) + ", " + b.ofSequence(2, 3), "0 2 ; 16384 32768, 1/2, 29");
        b.derive(2, 0, 3, 8);
        Checks.due("a(-29) is 1/2", b.text(2) + ", " + b.term(2, -29) + ", " + b.ofSequence(2, 3), "0 2 ; 16384 16384, 1/2, 28");
        b.two(3, 2, 2, 1, 3);
        Checks.due("1/2, 0: none", b.term(3, -1) + " " + b.term(3, -2) + ", " + b.ofSequence(3, 3), "1/2 0, 0");
        b.two(3, 0, 2, 1, 4);
        Checks.due("2, 1/2, 1: one", b.term(3, -1) + " " + b.term(3, -2) + " " + b.term(3, -3) + ", " + b.ofSequence(3, 3), "2 1/2 1, 1");
        b.two(3, 0, -3, 2, 9);
        Checks.due("-3, -2/3", b.term(3, -1) + " " + b.term(3, -2) + ", " + b.ofSequence(3, 3), "-3 -2/3, 1");
        b.two(3, 1, 2, 4, 8);
        Checks.due("2, 1, 1/2", b.term(3, -1) + " " + b.term(3, -2) + " " + b.term(3, -3) + ", " + b.ofSequence(3, 3), "2 1 1/2, 2");
        b.two(3, 1, -3, 4, 1);
        Checks.due("1, -1, -2/3", b.term(3, -1) + " " + b.term(3, -2) + " " + b.term(3, -3) + ", " + b.ofSequence(3, 3), "1 -1 -2/3, 2");
        b.two(3, 1, -1, 5, 7);
        Checks.due("by -1", b.ofSequence(3, 3), 30);
        b.two(3, 9, 7, 0, 0);
        Checks.due("zeros", b.ofSequence(3, 3), 30);
        b.two(3, 1, 0, 0, 0);
        Checks.due("(0, if it does not GO BACK)", b.ofSequence(3, 3), 0);
        Checks.tell(b, 3, 0);
        Checks.due("the ORDER 0", b.ofSequence(3, 3), 30);
    }

    private static void lastZero() {
        Checks.sentence("promise 18, 4: the greatest n of 0 to 30 for which a(n) is 0 (NONE)");
        Backwardterms b = new Backwardterms();
        for (int n = 0; n <= 32; n++) {
            b.two(0, 2, -1, -n, 1 - n);
            Checks.due("n - " + n, b.ofSequence(0, 4), n <= 30 ? n : -1);
        }
        b.two(0, 0, 1, 0, 1);
        Checks.due("0 1 0 1", b.ofSequence(0, 4), 30);
        b.two(0, 0, 1, 1, 0);
        Checks.due("1 0 1 0", b.ofSequence(0, 4), 29);
        b.two(0, 1, 0, 0, 1);
        Checks.due("0 1 1 1", b.ofSequence(0, 4), 0);
        b.two(0, 1, 0, 1, 0);
        Checks.due("1 0 0 0", b.ofSequence(0, 4), 30);
        Checks.tell(b, 0, 1, 99, 99);
        Checks.due("none", b.ofSequence(0, 4), -1);
    }

    private static void factorsAndTexts() {
        Checks.sentence("promise 19: c(k), from 1 on to the ORDER; promise 20: with a blank between two; \"0\" with the ORDER 0");
        Backwardterms b = new Backwardterms();
        Checks.tell(b, 0, 4, 1, -2, 0, 99, 5, -6, 0, 98);
        Checks.due("factors", b.factor(0, 1) + "," + b.factor(0, 2) + "," + b.factor(0, 3) + "," + b.factor(0, 4), "1,-2,0,99");
        Checks.due("text", b.text(0), "1 -2 0 99 ; 5 -6 0 98");
        Checks.tell(b, 0, 1, -7, 8);
        Checks.due("factor", b.factor(0, 1), "-7");
        Checks.due("text", b.text(0), "-7 ; 8");
        Checks.tell(b, 0, 0);
        Checks.due("text", b.text(0), "0");
        Checks.throwsJust("factor", Checks.ARGUMENT, () -> b.factor(0, 1));
    }

    private static void terms() {
        Checks.sentence("promise 21: a(n) of the least and the greatest n");
        Backwardterms b = Checks.busy();
        Checks.due("term(a, 100)", b.term(0, 100), "354224848179261915075");
        Checks.due("term(a, -30)", b.term(0, -30), "-832040");
        Checks.due("term(c, 100)", b.term(2, 100), BigInteger.TWO.pow(100).toString());
        Checks.due("term(c, -30)", b.term(2, -30), "1/" + (1 << 30));
        Checks.tell(b, 20, 1, -99, 99);
        Checks.due("99 * -99^100", b.term(20, 100), BigInteger.valueOf(99).pow(101).toString());
        Checks.due("99 * -99^-30", b.term(20, -30), "1/" + BigInteger.valueOf(99).pow(29));
        Checks.due("99 * -99^-29", b.term(20, -29), "-1/" + BigInteger.valueOf(99).pow(28));
        Checks.sentence("promise 21: \"none\", if n is below 0, and it does not GO BACK");
        Checks.due("term(z, -1)", b.term(25, -1), "none");
        Checks.due("term(z, -30)", b.term(25, -30), "none");
        Checks.due("term(z, 0)", b.term(25, 0), "5");
    }

    private static void remainders() {
        Checks.sentence("promise 22: a(n) MOD m of the least and the greatest n and m");
        Backwardterms b = Checks.busy();
        BigInteger two = BigInteger.TWO;
        BigInteger most = BigInteger.valueOf(999);
        Checks.due("2^100000 by 999", b.termMod(2, 100000, 999), two.modPow(BigInteger.valueOf(100000), most).intValue());
        Checks.due("2^-1000 by 999", b.termMod(2, -1000, 999), two.modPow(BigInteger.valueOf(-1000), most).intValue());
        Checks.due("2^99999 by 998", b.termMod(2, 99999, 998), two.modPow(BigInteger.valueOf(99999), BigInteger.valueOf(998)).intValue());
        Checks.due("a(100000) by 999", b.termMod(0, 100000, 999), 789);
        Checks.due("a(-1000) by 999", b.termMod(0, -1000, 999), 966);
        Checks.tell(b, 20, 4, 99, 99, 99, 99, 99, 99, 99, 99);
        int[] a = {99, 99, 99, 99};
        for (int n = 4; n <= 100000; n++) {
            int next = 99 * (a[0] + a[1] + a[2] + a[3]) % 997;
            a = new int[] {a[1], a[2], a[3], next};
        }
        Checks.due("of four 99 by 997", b.termMod(20, 100000, 997), a[3]);
        for (int n = 0; n <= 40; n++) Checks.due("a(" + n + ") by 997", b.termMod(0, n, 997), Integer.parseInt(b.term(0, n)) % 997);
    }

    private static void sums() {
        Checks.sentence("promise 23: so many TERMS: 0, 1 and 12; by steps of 1 and of 9");
        Backwardterms b = Checks.busy();
        for (int step = 1; step <= 9; step++) {
            BigInteger sum = BigInteger.ZERO;
            for (int many = 0; many <= 12; many++) {
                Checks.due("sum(a, " + step + ", " + many + ")", b.sum(0, step, many), sum.toString());
                sum = sum.add(new BigInteger(b.term(0, Math.min(100, many * step))));
            }
        }
        Checks.due("of the ORDER 0", b.sum(3, 9, 12), "0");
        Checks.due("of z", b.sum(25, 9, 12), "38");
    }

    private static void fractionOfNothing() {
        Checks.sentence("promise 24: by its SHORTEST recurrence of an ORDER L; \"0 / 1\", if L is 0");
        Backwardterms b = Checks.busy();
        Checks.due("the ORDER 0", b.fraction(3), "0 / 1");
        Checks.due("zeros of the ORDER 4", b.fraction(6), "0 / 1");
        b.two(20, 99, 99, 0, 0);
        Checks.due("zeros of the ORDER 2", b.fraction(20), "0 / 1");
        b.two(20, 1, 0, 7, 7);
        Checks.due("L is 1", b.fraction(20), "7 / 1 -1");
        b.two(20, 0, 0, 0, 7);
        Checks.due("c(L) is 0", b.fraction(20), "0 7 / 1 0 0");
    }

    private static void divided() {
        Checks.sentence("promise 26: the least n of 0 to 1000 for which m divides a(n) (each m divides 0); NONE, if there is none");
        Backwardterms b = Checks.busy();
        for (int m : new int[] {1, 2, 7, 999}) {
            Checks.due("a(0) is 0, by " + m, b.divided(0, m), 0);
            Checks.due("the ORDER 0 by " + m, b.divided(3, m), 0);
            Checks.due("zeros by " + m, b.divided(6, m), 0);
        }
        Checks.due("1 divides each", b.divided(1, 1), 0);
        Checks.due("3 never", b.divided(2, 3), -1);
        Checks.due("512 at 9", b.divided(2, 512), 9);
        b.two(20, 2, -1, 2, 3);
        Checks.due("n + 2 by 999", b.divided(20, 999), 997);
        b.two(20, 2, -1, -3, -1);
        Checks.due("2 * n - 3 by 999: 501", b.divided(20, 999), 501);
        b.two(20, -3, 1, 5, -2);
        Checks.due("at 1000", b.divided(20, 676), 1000);
        b.two(20, 9, -3, 5, 1);
        Checks.due("at 1001", b.divided(20, 778), -1);
        b.two(20, 0, 1, -99, 98);
        Checks.due("below 0, by 99", b.divided(20, 99), 0);
        Checks.due("below 0, by 98", b.divided(20, 98), 1);
        Checks.due("below 0, by 97", b.divided(20, 97), -1);
    }

    // ---- asked of the desk, of powers, of the books

    private static void foundMore() {
        Checks.sentence("promise 30, 2: how many more terms it tells would make it SURE (0, if it is)");
        Backwardterms b = Checks.withDesk(0, 0, 1);
        for (int more = 3; more >= 0; more--) {
            Checks.due("found", b.found(0) + " " + b.found(1) + " " + b.found(2), "3 " + (more == 0 ? 1 : 0) + " " + more);
            b.lay(1, 0, 0, 0, 0, 0);
        }
        Checks.due("found", b.found(0) + " " + b.found(1) + " " + b.found(2), "3 1 0");
        b.lay(1, 1, 0, 0, 0, 0);
        Checks.due("f is longer by one that it does not tell", b.found(0) + " " + b.found(1) + " " + b.found(2), "5 0 2");
    }

    private static void powers() {
        Checks.sentence("promise 38: the sum of all j of 1 to n, each raised to the power exponent (1 each, if exponent is 0)");
        Backwardterms b = Checks.withDesk(5);
        for (int exponent = 0; exponent <= 9; exponent++) {
            BigInteger sum = BigInteger.ZERO;
            for (int n = 0; n <= 999; n++) {
                if (n > 0) sum = sum.add(BigInteger.valueOf(n).pow(exponent));
                if (n < 15 || n % 111 == 0) Checks.due("powers(" + exponent + ", " + n + ")", b.powers(exponent, n), sum.toString());
            }
        }
        Checks.due("the desk is not touched", b.desk(0) + " " + b.value(3), "5 5");
    }

    private static void books() {
        Checks.sentence("promise 39: 0 how many numbers, 1 how many SEQUENCES, 2 CHANGES, 3 terms of WINDING (0, if it was not told), 4 KNOCKED");
        Backwardterms b = Checks.busy(1, 2, 3);
        Checks.due("books", b.books(0) + " " + b.books(1) + " " + b.books(2) + " " + b.books(3) + " " + b.books(4), "3 10 10 41 2");
        Checks.put(b, 0, 0, 1, 1, 1, 1, 1, 1);
        b.wind();
        Checks.due("books(3)", b.books(3), 2);
        for (int i = 0; i < 10; i++) b.undo();
        Checks.due("books", b.books(0) + " " + b.books(1) + " " + b.books(2) + " " + b.books(3) + " " + b.books(4), "8 3 0 0 2");
    }

    // ---- all of it

    private static void sound() {
        Checks.sentence("promise 40: with ORDER 0, with none that GOES BACK, with zeros, of the ORDER 8");
        Backwardterms b = Checks.busy(0, 1);
        Checks.due("isSound()", b.isSound(), true);
        Checks.due("isSound() again", b.isSound(), true);
        Checks.sentence("promise 40: if PERIOD by 5 is there");
        Checks.put(b, 0, 0, 0, 0, 1, 1, 0, 0, 0, -1, -2);
        Checks.due("read", b.read(20, 5), 5);
        Checks.due("PERIOD by 5", b.period(20, 5, false), -1);
        Checks.due("isSound()", b.isSound(), true);
    }

    private static void digestOfNothing() {
        Checks.sentence("promise 41: a number d starts with 5606; then d becomes d * 31 + v, for each v in this order");
        // 0 0 0 0 0, 0 1 0, 0 0, -1, 1, 4 4, 1
        Checks.due("digest() of nothing", new Backwardterms().digest(), -467278748568814406L);
        Backwardterms b = new Backwardterms();
        b.knock();
        Checks.due("digest() of one KNOCK", b.digest(), digestOf(b));
    }

    private static void digestWraps() {
        Checks.sentence("promise 41: which wraps around as a 64-bit integer");
        Backwardterms b = Checks.withDesk(1, -1, 99, -99);
        for (int i = 0; i < 14; i++) {
            Checks.due("digest() of " + b.names(), b.digest(), digestOf(b));
            b.two(i, i - 3, 2 - i, 99 - i, i - 99);
        }
        b = Checks.busy();
        Checks.due("digest()", b.digest(), digestOf(b));
        Checks.put(b, 5, 5, 5, 5, 5, 5, 5, 5, 5, 5, 5, 5, 5, 5, 5, 6);
        Checks.due("digest() with sixteen", b.digest(), digestOf(b));
        // a sign more or less at 19, 20 and 21
        for (int[] line : new int[][] {{4, 9}, {-5, 0}}) {
            Checks.put(b, line);
            Checks.due("digest() with a line", b.digest(), digestOf(b));
        }
        int[][] windings = {{1, 0, 99, 0, 0, 0, 1, 1}, {-8, 1, 1, 1, 1, 1, 1, 1}, {-9, 1, 1, 1, 1, 1, 1, 1}, {-10, 1, 1, 1, 1, 1, 1, 1}};
        for (int[] winding : windings) {
            Checks.put(b, winding);
            b.wind();
            Checks.due("digest() with " + b.books(3) + " terms", b.digest(), digestOf(b));
        }
        Checks.put(b, 97, -99, 97, -99, 14, 0, 7, 49);
        Checks.due("digest() with eight", b.digest(), digestOf(b));
    }

    private static void digestByName() {
        Checks.sentence("promise 41: SEQUENCE by SEQUENCE, by rising NAMES; fails() of 0 with it and the SEQUENCE with the smallest NAME");
        Backwardterms b = new Backwardterms();
        b.two(25, 1, 1, 1, 1);
        Checks.due("digest() of z", b.digest(), digestOf(b));
        b.two(3, 1, 1, 1, 2);
        Checks.due("digest() of d z", b.digest(), digestOf(b));
        b.two(0, 1, 1, 0, 1);
        Checks.due("digest() of a d z", b.digest(), digestOf(b));
        b.drop(0);
        Checks.due("digest() of d z", b.digest(), digestOf(b));
        b.undo();
        Checks.due("digest() of a d z", b.digest(), digestOf(b));
        long before = b.digest();
        b.knock();
        Checks.due("a KNOCK is told", b.digest() == before, false);
    }

    /** The same SEQUENCES are digested again under other NAMES, in other places, and after undoing. */
    private static void digestAgain() {
        Checks.sentence("promise 41: what is told of a SEQUENCE does not rest on when it was asked");
        Backwardterms b = Checks.busy();
        Checks.due("digest()", b.digest(), digestOf(b));
        for (int name = 0; name < 9; name++) {
            b.shorten(name);
            Checks.due("digest() after shorten(" + name + ")", b.digest(), digestOf(b));
        }
        for (int name = 0; name < 9; name++) {
            b.derive(name + 9, name, 4, name % 2 == 0 ? 1 : -1);
            Checks.due("digest() after " + name + " was made again", b.digest(), digestOf(b));
            b.drop(name);
            Checks.due("digest() after drop(" + name + ")", b.digest(), digestOf(b));
        }
        for (int i = 10; i > 0; i--) {
            b.undo();
            Checks.due("digest() after an undoing", b.digest(), digestOf(b));
        }
    }

    private static BigInteger after(BigInteger d, long v) {
        return d.multiply(BigInteger.valueOf(31)).add(BigInteger.valueOf(v));
    }

    /** As the document tells it, by the other calls, and wrapped around at the end alone. */
    private static long digestOf(Backwardterms b) {
        BigInteger d = BigInteger.valueOf(5606);
        for (int what = 0; what <= 4; what++) d = after(d, b.books(what));
        for (int i = 0; i < b.books(0); i++) d = after(d, b.desk(i));
        for (int what = 0; what <= 2; what++) d = after(d, b.found(what));
        int[] more = {b.foundBy(2, 0), b.foundBy(7, 0), b.degree(), b.value(20).length()};
        for (int v : more) d = after(d, v);
        int smallest = -1;
        for (int name = 0; name < 26; name++) {
            if (!b.has(name)) continue;
            if (smallest < 0) smallest = name;
            d = after(d, name);
            for (int what = 0; what <= 4; what++) d = after(d, b.ofSequence(name, what));
            int[] of = {b.text(name).length(), b.fraction(name).length(), b.term(name, 30).length(), b.term(name, -5).length(),
                b.sum(name, 2, 5).length(), b.termMod(name, 1000, 97), b.termMod(name, -7, 97), b.period(name, 6, false),
                b.period(name, 6, true), b.divided(name, 7), b.fails(0, name, smallest, 0)};
            for (int v : of) d = after(d, v);
        }
        d = after(d, b.wound(9).length());
        d = after(d, b.woundSum(9).length());
        d = after(d, b.isSound() ? 1 : 0);
        if (d.abs().bitLength() < 64) throw new AssertionError("it does not wrap around");
        return d.longValue();
    }
}
