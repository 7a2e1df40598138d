import java.util.Arrays;
import java.util.function.Function;
import java.util.function.Supplier;

/** The sentences of the Description ahead of section 1, and those of section 1, that name a boundary case. */
public final class SequencesTest {
    public static void main(String[] args) {
        numbersAsTexts();
        nothingIsChanged();
        mod();
        orders();
        goingBack();
        names();
        longFactors();
        longFirstTerms();
        longOnesOfTheDesk();
        Checks.end("SequencesTest");
    }

    /** Texts of a(from), a(from + step), ..., so many. */
    private static String terms(Backwardterms b, int name, int from, int step, int many) {
        StringBuilder s = new StringBuilder();
        for (int i = 0; i < many; i++) s.append(i == 0 ? "" : " ").append(b.term(name, from + i * step));
        return s.toString();
    }

    private static Backwardterms winds(int... numbers) {
        Backwardterms b = Checks.withDesk(numbers);
        b.wind();
        return b;
    }

    // ---- numbers

    private static void numbersAsTexts() {
        Checks.sentence("as a text a number is told in digits, \"-\" ahead of it if it is below 0");
        Backwardterms b = Checks.busy(-7);
        Checks.due("term(a, 0)", b.term(0, 0), "0");
        Checks.due("term(a, -1)", b.term(0, -1), "1");
        Checks.due("term(a, -2)", b.term(0, -2), "-1");
        Checks.due("sum of none", b.sum(0, 1, 0), "0");
        Checks.due("value(0)", b.value(0), "-7");
        b.two(10, -99, -1, -5, 0);
        Checks.due("text", b.text(10), "-99 -1 ; -5 0");
        Checks.due("c(1)", b.factor(10, 1), "-99");
        Checks.due("c(2)", b.factor(10, 2), "-1");
        Checks.due("sum of one", b.sum(10, 1, 1), "-5");
        Checks.due("fraction", b.fraction(10), "-5 -495 / 1 99 1");

        Checks.sentence("a fraction as \"p/q\" without common divisors, q above 1 (as \"p\", if q is 1)");
        b.two(10, 0, -4, 2, 6);
        Checks.due("terms behind 0", terms(b, 10, -1, -1, 4), "-3/2 -1/2 3/8 1/8");
        b.two(10, 0, -4, 8, 12);
        Checks.due("terms behind 0", terms(b, 10, -1, -1, 4), "-3 -2 3/4 1/2");
        b.two(10, 1, -2, 0, 0);
        Checks.due("terms behind 0", terms(b, 10, -1, -1, 4), "0 0 0 0");
        int[][] desks = {{4, -6}, {-4, -6}, {-4, 6}, {4, 8}, {4, 0}, {8, 2}, {-8, 2}, {-98, 98}};
        String[] found = {"-3/2", "3/2", "-3/2", "2", "0", "1/4", "-1/4", "-1"};
        for (int i = 0; i < desks.length; i++) {
            Checks.due("f(1) of " + Arrays.toString(desks[i]), Checks.withDesk(desks[i]).foundFactor(1), found[i]);
        }
        b = winds(2, 0, 1, 0, 0, 0, 4, 3);
        Checks.due("wound(2) and (3)", b.wound(2) + " " + b.wound(3), "3/2 3/4");
        Checks.due("woundSum(3) and (4)", b.woundSum(3) + " " + b.woundSum(4), "17/2 37/4");
        b = winds(-2, 0, 1, 0, 0, 0, 4, 3);
        Checks.due("wound(2) and (3)", b.wound(2) + " " + b.wound(3), "-3/2 3/4");
        b = winds(2, 0, 1, 0, 0, 0, 2, 4);
        Checks.due("wound(2) to (4)", b.wound(2) + " " + b.wound(3) + " " + b.wound(4), "2 1 1/2");
        Checks.due("woundSum(3) and (4)", b.woundSum(3) + " " + b.woundSum(4), "8 9");
        b = winds(-2, 0, 1, 0, 1, 0, 0, 0);
        Checks.due("wound(40) and woundSum(41)", b.wound(40) + " " + b.woundSum(41), "0 0");

        Checks.sentence("NONE is -1, and \"none\" as a text");
        b = Checks.busy();
        Checks.due("ofSequence(b, 4)", b.ofSequence(1, 4), -1);
        Checks.due("divided(b, 5)", b.divided(1, 5), -1);
        Checks.due("fails(0, a, a)", b.fails(0, 0, 0, 0), -1);
        Checks.due("degree()", b.degree(), -1);
        Checks.due("termMod(z, -1, 5)", b.termMod(25, -1, 5), -1);
        Checks.due("term(z, -1)", b.term(25, -1), "none");
        b = new Backwardterms();
        Checks.due("wound(0)", b.wound(0), "none");
        Checks.due("woundSum(1)", b.woundSum(1), "none");
    }

    private static void nothingIsChanged() {
        Checks.sentence("CROOKED -5: then nothing is changed");
        Supplier<Backwardterms> busy = () -> Checks.busy(2, 3, 5, 8);
        Checks.nothing("combine by b(0) = 2", busy, -5, b -> b.combine(0, 0, 1, 4));
        Checks.nothing("combine into a new NAME", busy, -5, b -> b.combine(10, 0, 0, 4));
        Checks.nothing("read with q(0) = 2", busy, -5, b -> b.read(0, 0));
        Checks.nothing("read into a new NAME", busy, -5, b -> b.read(10, 3));
        Checks.sentence("BROKEN -6: then nothing is changed");
        Checks.nothing("adopt 2 3", () -> Checks.busy(2, 3), -6, b -> b.adopt(0));
        Checks.nothing("adopt 2 3 into a new NAME", () -> Checks.busy(2, 3), -6, b -> b.adopt(10));
        Checks.sentence("UNSURE -7: then nothing is changed");
        Checks.nothing("adopt 2 3 5", () -> Checks.busy(2, 3, 5), -7, b -> b.adopt(0));
        Checks.nothing("adopt 2 3 5 into a new NAME", () -> Checks.busy(2, 3, 5), -7, b -> b.adopt(10));
        Checks.nothing("foundBy", () -> Checks.busy(0, 0, 1), -7, b -> b.foundBy(7, 1));
        Checks.sentence("JAMMED -9: then nothing is changed");
        Checks.nothing("termMod by 2 of 2^n", busy, -9, b -> b.termMod(2, -1, 2));
        Checks.sentence("-100 less a place (a FAULT; -103 for the place 3): then nothing is changed");
        for (int place = 0; place < 16; place++) {
            for (int off : new int[] {4, -1, 99, -99}) {
                int[] table = new int[16];
                Arrays.fill(table, 3);
                table[place] = off;
                Checks.nothing("machine with " + off + " at " + place, () -> Checks.busy(table), -100 - place, b -> b.machine(0, 4, 4, 1));
            }
        }
        Checks.sentence("NONE and \"none\": then nothing is changed");
        Checks.nothing("termMod", busy, -1, b -> b.termMod(25, -1, 2));
        Checks.nothing("term", busy, "none", b -> b.term(25, -1));
        Checks.nothing("divided", busy, -1, b -> b.divided(2, 3));
        Checks.nothing("woundSum", () -> winds(0, 0, 1, 1, 1, 1, 1, 1), "none", b -> b.woundSum(3));
    }

    private static void mod() {
        Checks.sentence("n MOD m is the number from 0 to m - 1 from which n differs by a multiple of m");
        Backwardterms b = Checks.withDesk(-1, 96, -97, 98);
        int[][] want = {{-1, 4}, {-5, 0}, {-6, 4}, {-99, 1}, {0, 0}, {4, 4}, {5, 0}, {99, 4}};
        for (int[] w : want) {
            b.two(0, 1, 0, w[0], 0);
            Checks.due(w[0] + " MOD 5", b.termMod(0, 0, 5), w[1]);
        }
        b.two(0, -1, 0, 1, -1);
        Checks.due("-1 MOD 999", b.termMod(0, 99999, 999), 998);
        Checks.due("1 MOD 999", b.termMod(0, 100000, 999), 1);
        b.two(0, -99, 0, 1, -99);
        Checks.due("-99 MOD 100 is 1: its least 0 MOD 100", b.divided(0, 100), -1);
        Checks.due("-99 MOD 11", b.divided(0, 11), 1);
        Checks.due("ORDER by 97 of -1 -1 0 1", b.foundBy(97, 0), 2);
    }

    // ---- section 1

    private static void orders() {
        Checks.sentence("an ORDER k (0 to 8): the ORDER 8");
        Backwardterms b = Checks.busy();
        Checks.due("text", b.text(8), "0 0 0 0 0 0 0 1 ; 1 0 0 0 0 0 0 0");
        Checks.due("ORDER", b.ofSequence(8, 0), 8);
        Checks.due("ORDER of the SHORTEST", b.ofSequence(8, 1), 8);
        Checks.due("a(7) to a(9), a(16)", terms(b, 8, 7, 1, 3) + " " + b.term(8, 16), "0 1 0 1");
        Checks.due("a(96) and a(100)", b.term(8, 96) + " " + b.term(8, 100), "1 0");
        Checks.due("a(-1), a(-8), a(-24)", b.term(8, -1) + " " + b.term(8, -8) + " " + b.term(8, -24), "0 1 1");
        Checks.due("a(100000) MOD 999", b.termMod(8, 100000, 999), 1);
        Checks.due("a(-1000) MOD 999", b.termMod(8, -1000, 999), 1);
        Checks.due("a(-999) MOD 999", b.termMod(8, -999, 999), 0);
        Checks.due("c(8)", b.factor(8, 8), "1");
        Checks.due("fraction", b.fraction(8), "1 0 0 0 0 0 0 0 / 1 0 0 0 0 0 0 0 -1");
        Checks.due("turns", b.period(8, 20, true) + " " + b.period(8, 20, false), "0 8");
        Checks.sentence("an ORDER k (0 to 8): the ORDER 1");
        Checks.due("text", b.text(2), "2 ; 1");
        Checks.due("a(0), a(1), a(10)", b.term(2, 0) + " " + b.term(2, 1) + " " + b.term(2, 10), "1 2 1024");
        Checks.due("a(-1), a(-10)", b.term(2, -1) + " " + b.term(2, -10), "1/2 1/1024");
        Checks.due("a(17) MOD 999", b.termMod(2, 17, 999), 131072 % 999);
        Checks.sentence("with the ORDER 0 all are 0");
        Checks.due("text", b.text(3), "0");
        for (int n : new int[] {0, 1, 100, -1, -30}) Checks.due("term(d, " + n + ")", b.term(3, n), "0");
        Checks.due("sum", b.sum(3, 9, 12), "0");
        Checks.due("a(100000) MOD 999", b.termMod(3, 100000, 999), 0);
        Checks.due("the greatest n with 0", b.ofSequence(3, 4), 30);
        Checks.due("ORDER", b.ofSequence(3, 0), 0);
        Checks.due("ORDER of the SHORTEST", b.ofSequence(3, 1), 0);
        Checks.due("divided", b.divided(3, 999), 0);
    }

    private static void goesBack(String call, int is, int order, int... numbers) {
        Backwardterms b = new Backwardterms();
        Checks.tell(b, 0, order, numbers);
        Checks.due(call + ": 2", b.ofSequence(0, 2), is);
        Checks.due(call + ": term(-1) is none", b.term(0, -1).equals("none"), is == 0);
        Checks.due(call + ": termMod(-1) is NONE", b.termMod(0, -1, 1), is == 0 ? -1 : 0);
    }

    private static void goingBack() {
        Checks.sentence("it GOES BACK, if k is 0 or c(k) is not 0");
        goesBack("the ORDER 0", 1, 0);
        goesBack("c(1) is 1", 1, 1, 1, 5);
        goesBack("c(1) is -1", 1, 1, -1, 5);
        goesBack("c(1) is 0", 0, 1, 0, 5);
        goesBack("c(1) is 0, all is 0", 0, 1, 0, 0);
        goesBack("c(1) is 1, all is 0", 1, 1, 1, 0);
        goesBack("c(2) is 0", 0, 2, 1, 0, 5, 3);
        goesBack("c(1) is 0, c(2) not", 1, 2, 0, 1, 5, 3);
        goesBack("c(3) is 0", 0, 3, 1, 1, 0, 1, 1, 1);
        goesBack("c(4) is 0", 0, 4, 1, 1, 1, 0, 1, 1, 1, 1);
        goesBack("c(4) alone is not 0", 1, 4, 0, 0, 0, 99, 1, 1, 1, 1);
        Backwardterms b = new Backwardterms();
        b.two(0, 1, 0, 0, 0);
        Checks.due("ahead of shorten", b.ofSequence(0, 2) + " " + b.term(0, -1), "0 none");
        b.shorten(0);
        Checks.due("of the ORDER 0 it GOES BACK", b.ofSequence(0, 2) + " " + b.term(0, -1), "1 0");
        Checks.sentence("a(n) = (a(n + k) - c(1) * a(n + k - 1) - ... - c(k - 1) * a(n + 1)) / c(k)");
        Checks.tell(b, 1, 3, 2, -3, -5, 1, 4, 7);
        // a(-1) = (a(2) - 2 a(1) + 3 a(0)) / -5 = (7 - 8 + 3) / -5; a(-2) = (4 - 2 + 3 * -2/5) / -5
        Checks.due("a(-1) and a(-2)", terms(b, 1, -1, -1, 2), "-2/5 -4/25");
        Checks.tell(b, 1, 1, 3, 5);
        Checks.due("5 by powers of 3", terms(b, 1, 0, -1, 4), "5 5/3 5/9 5/27");
        Checks.due("a(-30)", b.term(1, -30), "5/205891132094649");
        Checks.sentence("(with the ORDER 0 they are 0)");
        Checks.tell(b, 2, 0);
        Checks.due("a(-1) and a(-30)", b.term(2, -1) + b.term(2, -30), "00");
        Checks.due("whole ones", b.ofSequence(2, 3), 30);
    }

    private static void names() {
        Checks.sentence("a NAME, 0 to 25, told as a letter: \"a\" for 0 to \"z\" for 25");
        Backwardterms b = new Backwardterms();
        StringBuilder all = new StringBuilder();
        for (int name = 0; name <= 25; name++) {
            Checks.due("two(" + name + ")", b.two(name, name, 0, 0, 0), name + 1);
            all.append((char) ('a' + name));
            Checks.due("names()", b.names(), all.toString());
        }
        for (int name = 0; name <= 25; name++) Checks.due("text(" + name + ")", b.text(name), name + " 0 ; 0 0");
        Checks.sentence("There are none at first");
        b = new Backwardterms();
        Checks.due("names()", b.names() + b.books(1), "0");
        for (int name = 0; name <= 25; name++) Checks.due("has(" + name + ")", b.has(name), false);
        placeOfTheOther();
    }

    private static void gives(Backwardterms b, String call, Object got, Object want, String text) {
        Checks.due(call, got, want);
        Checks.due("text after " + call, b.text(0), text);
        Checks.due("how many after " + call, b.books(1) + " " + b.names(), "10 abcdefghiz");
    }

    private static void placeOfTheOther() {
        Checks.sentence("what gives a NAME a SEQUENCE takes the place of that which it had");
        Backwardterms b = Checks.busy(1, 2, 4, 8);
        gives(b, "two", b.two(0, 7, 8, 9, 10), 10, "7 8 ; 9 10");
        gives(b, "tell", b.tell(0, 1), 10, "1 ; 2");
        gives(b, "adopt", b.adopt(0), 1, "2 ; 1");
        gives(b, "combine", b.combine(0, 2, 2, 0), 1, "2 ; 2");
        gives(b, "combine into the one", b.combine(0, 0, 2, 2), 1, "4 ; 2");
        gives(b, "combine into the other", b.combine(0, 2, 0, 2), 1, "8 ; 2");
        gives(b, "combine into both", b.combine(0, 0, 0, 2), 1, "64 ; 4");
        gives(b, "derive", b.derive(0, 0, 4, -1), 1, "64 ; -4");
        Checks.put(b, 0, 0);
        gives(b, "machine", b.machine(0, 1, 2, 1), 1, "2 ; 1");
        Checks.put(b, 3, 1, 1);
        gives(b, "read", b.read(0, 1), 1, "-1 ; 3");
        b.two(0, 1, 0, 4, 4);
        gives(b, "shorten", b.shorten(0), 1, "1 ; 4");
    }

    private static void power(Backwardterms b, int name, int factor) {
        Checks.tell(b, name, 1, factor, 1);
    }

    /**
     * The powers of 999999 as "a", of -1 "b", 10 "c", 100000 "d", 1 "e", 999 "f", 1001 "g", 1000 "h", -1000 "i",
     * -100000 "j", 64 "l", 256 "m"; "k" is 1 1 2 4 8.
     */
    private static Backwardterms powers() {
        Backwardterms b = new Backwardterms();
        power(b, 0, 99);
        for (int factor : new int[] {91, 37, 3}) {
            power(b, 1, factor);
            b.combine(0, 0, 1, 2);
        }
        power(b, 1, -1);
        power(b, 2, 10);
        b.derive(3, 2, 2, 5);
        power(b, 4, 1);
        power(b, 5, 37);
        power(b, 6, 27);
        b.combine(5, 5, 6, 2);
        power(b, 6, 91);
        power(b, 7, 11);
        b.combine(6, 6, 7, 2);
        b.derive(7, 2, 2, 3);
        b.combine(8, 7, 1, 2);
        b.combine(9, 3, 1, 2);
        b.two(10, 2, 0, 1, 1);
        power(b, 11, 64);
        power(b, 12, 4);
        b.combine(12, 12, 11, 2);
        b.sweep();
        return b;
    }

    private static void makes(Backwardterms b, String call, Function<Backwardterms, Object> doing, int order, String text) {
        Checks.due(call, Checks.answer(() -> doing.apply(b)), order);
        Checks.due("text of " + call, Checks.answer(() -> b.text(20)), text);
    }

    private static void longFactors() {
        Checks.sentence("LONG is a RECURRENCE with a FACTOR of more than 6 digits (without \"-\"): 999999 and -999999 are not");
        Backwardterms b = powers();
        Checks.due("text", b.text(0), "999999 ; 1");
        makes(b, "999999 * -1", x -> x.combine(20, 0, 1, 2), 1, "-999999 ; 1");
        makes(b, "999 with 1001", x -> x.combine(20, 5, 6, 3), 2, "2000 -999999 ; 1 2000");
        b.combine(21, 5, 1, 2);
        makes(b, "-999 with 1001", x -> x.combine(20, 21, 6, 3), 2, "2 999999 ; 1 2");
        makes(b, "each fifth power of 10", x -> x.derive(20, 2, 2, 5), 1, "100000 ; 1");
        makes(b, "each second power of 999", x -> x.derive(20, 5, 2, 2), 1, "998001 ; 1");
        makes(b, "n times the powers of 999", x -> x.derive(20, 5, 6, 0), 2, "1998 -998001 ; 0 999");
        makes(b, "1 divided by 999999", x -> x.combine(20, 4, 0, 4), 2, "1 0 ; 1 -999998");
        Checks.sentence("LONG is a RECURRENCE with a FACTOR of more than 6 digits: 1000000 is");
        Supplier<Backwardterms> on = SequencesTest::powers;
        Checks.nothing("10 * 100000", on, Checks.STATE, x -> x.combine(20, 2, 3, 2));
        Checks.nothing("each sixth power of 10", on, Checks.STATE, x -> x.derive(20, 2, 2, 6));
        Checks.nothing("each second power of 1000", on, Checks.STATE, x -> x.derive(20, 7, 2, 2));
        Checks.nothing("999999 + 1", on, Checks.STATE, x -> x.combine(20, 0, 4, 0));
        Checks.nothing("999999 - 1", on, Checks.STATE, x -> x.combine(20, 0, 4, 1));
        Checks.nothing("999999 with 1", on, Checks.STATE, x -> x.combine(20, 0, 4, 3));
        Checks.nothing("sums of the powers of 999999", on, Checks.STATE, x -> x.derive(20, 0, 0, 0));
        Checks.nothing("999999 divided by 1 1 2 4", on, Checks.STATE, x -> x.combine(20, 0, 10, 4));
        Checks.nothing("c(2) of 1000 with -1000", on, Checks.STATE, x -> x.combine(20, 7, 8, 3));
        // by the prime 2^31 - 1, which tells much of the SHORTEST recurrence, 2^36 is 32, and 256^4 is 2
        Checks.nothing("each sixth power of 64", on, Checks.STATE, x -> x.derive(20, 11, 2, 6));
        Checks.nothing("each fourth power of 256", on, Checks.STATE, x -> x.derive(20, 12, 2, 4));
        Checks.sentence("LONG is a RECURRENCE with a FACTOR of more than 6 digits (without \"-\"): -1000000 is");
        Checks.nothing("10 * -100000", on, Checks.STATE, x -> x.combine(20, 2, 9, 2));
        Checks.nothing("c(2) of 1000 with 1000", on, Checks.STATE, x -> x.combine(20, 7, 7, 3));
        Checks.nothing("c(2) of n times the powers of 1000", on, Checks.STATE, x -> x.derive(20, 7, 6, 0));
        Checks.sentence("LONG: what a NAME has is as before, if what takes its place is refused");
        Checks.nothing("into the one", on, Checks.STATE, x -> x.combine(2, 2, 3, 2));
        Checks.nothing("into its own", on, Checks.STATE, x -> x.derive(7, 7, 2, 2));
    }

    /** "a" 999999999 everywhere, "b" 0 1 0 0, "c" 1 everywhere, "d" the powers of 10, "e" 111111111 everywhere. */
    private static Backwardterms constants() {
        Backwardterms b = new Backwardterms();
        Checks.tell(b, 4, 1, 1, 37);
        for (int factor : new int[] {3, 7, 11, 13, 10, 10, 10}) {
            Checks.tell(b, 0, 1, 1, factor);
            b.combine(4, 4, 0, 2);
        }
        Checks.tell(b, 0, 1, 1, 37);
        for (int i = 0; i < 3; i++) b.combine(4, 4, 0, 0);
        b.derive(0, 4, 4, 9);
        b.two(1, 0, 0, 0, 1);
        Checks.tell(b, 2, 1, 1, 1);
        power(b, 3, 10);
        b.sweep();
        return b;
    }

    private static void longFirstTerms() {
        Checks.sentence("LONG is a RECURRENCE with a FIRST TERM of more than 9 digits (without \"-\"): 999999999 and -999999999 are not");
        Backwardterms b = constants();
        Checks.due("texts", b.text(0) + ", " + b.text(4), "1 ; 999999999, 1 ; 111111111");
        makes(b, "111111111 * 9", x -> x.derive(20, 4, 4, 9), 1, "1 ; 999999999");
        makes(b, "111111111 * -9", x -> x.derive(20, 4, 4, -9), 1, "1 ; -999999999");
        makes(b, "999999999 * 1", x -> x.combine(20, 0, 2, 2), 1, "1 ; 999999999");
        makes(b, "0 999999999", x -> x.combine(20, 1, 0, 3), 2, "1 0 ; 0 999999999");
        b.derive(21, 0, 4, -1);
        makes(b, "0 -999999999", x -> x.combine(20, 1, 21, 3), 2, "1 0 ; 0 -999999999");
        makes(b, "10^8 on", x -> x.derive(20, 3, 3, 8), 1, "10 ; 100000000");
        Checks.sentence("LONG: it is the FIRST TERMS alone that count, not the TERMS behind them");
        makes(b, "999999999 times 10^n", x -> x.combine(20, 0, 3, 2), 1, "10 ; 999999999");
        Checks.due("a(1)", b.term(20, 1), "9999999990");
        Checks.sentence("LONG is a RECURRENCE with a FIRST TERM of more than 9 digits: 1000000000 is");
        Supplier<Backwardterms> on = SequencesTest::constants;
        Checks.nothing("999999999 + 1", on, Checks.STATE, x -> x.combine(20, 0, 2, 0));
        Checks.nothing("10^9 on", on, Checks.STATE, x -> x.derive(20, 3, 3, 9));
        Checks.nothing("10^20 on", on, Checks.STATE, x -> x.derive(20, 3, 3, 20));
        Checks.nothing("999999999 twice", on, Checks.STATE, x -> x.derive(20, 0, 4, 2));
        Checks.nothing("sums of 999999999", on, Checks.STATE, x -> x.derive(20, 0, 0, 0));
        Checks.nothing("n + 2 times 999999999", on, Checks.STATE, x -> x.derive(20, 0, 6, 2));
        Checks.nothing("the second one alone", SequencesTest::withSecond, Checks.STATE, x -> x.combine(20, 5, 1, 0));
        Checks.sentence("LONG is a RECURRENCE with a FIRST TERM of more than 9 digits (without \"-\"): -1000000000 is");
        Checks.nothing("-999999999 - 1", SequencesTest::withSecond, Checks.STATE, x -> x.combine(20, 6, 2, 1));
        Checks.nothing("999999999 * -9", on, Checks.STATE, x -> x.derive(20, 0, 4, -9));
        Checks.nothing("the second one alone", SequencesTest::withSecond, Checks.STATE, x -> x.combine(20, 7, 1, 1));
    }

    /** "f" 0 999999999 999999999, "g" -999999999 everywhere, "h" 0 -999999999 -999999999. */
    private static Backwardterms withSecond() {
        Backwardterms b = constants();
        b.combine(5, 1, 0, 3);
        b.derive(6, 0, 4, -1);
        b.combine(7, 1, 6, 3);
        return b;
    }

    private static void longOnesOfTheDesk() {
        Checks.sentence("LONG: a FRACTION is read, with FIRST TERMS of 9 and of 10 digits");
        // the numbers above are digits with the base 99
        Backwardterms b = Checks.withDesk(10, 40, 60, 40, 9, 1, -99);
        makes(b, "999999999", x -> x.read(20, 5), 5, "99 0 0 0 0 ; 10 1030 102030 10101010 999999999");
        Checks.nothing("1000000000", () -> Checks.withDesk(10, 40, 60, 40, 10, 1, -99), Checks.STATE, x -> x.read(20, 5));
        Checks.put(b, -10, -40, -60, -40, -9, 1, -99);
        makes(b, "-999999999", x -> x.read(20, 5), 5, "99 0 0 0 0 ; -10 -1030 -102030 -10101010 -999999999");
        Checks.nothing("-1000000000", () -> Checks.withDesk(-10, -40, -60, -40, -10, 1, -99), Checks.STATE, x -> x.read(20, 5));
        Checks.sentence("LONG: numbers of the DESK are adopted, with FACTORS of 6 and of 7 digits");
        Checks.put(b, 0, 0, 0, 1, -34, 98, 88, 93);
        makes(b, "-999999", x -> x.adopt(20), 4, "-34 -1058 -32552 -999999 ; 0 0 0 1");
        Checks.nothing("-1000000", () -> Checks.busy(0, 0, 0, 1, -34, 98, 88, 92), Checks.STATE, x -> x.adopt(0));
        Checks.put(b, 0, 0, 0, 0, 1, 11, -99, -24, -91, -99);
        makes(b, "999999", x -> x.adopt(20), 5, "11 -220 3485 -59942 999999 ; 0 0 0 0 1");
        Checks.nothing("1000000", () -> Checks.busy(0, 0, 0, 0, 1, 11, -99, -24, -91, -98), Checks.STATE, x -> x.adopt(0));
        Checks.sentence("promise 6, BROKEN, if not all of its fractions are whole: LONG does not matter then");
        Checks.nothing("long and broken", () -> Checks.busy(0, 0, 0, 2, 99, -99, 99, -99), -6, x -> x.adopt(0));
        Checks.nothing("f(4) is long, f(5) broken", () -> Checks.busy(0, 0, 0, 0, 2, 98, -98, 98, -98, 1), -6, x -> x.adopt(0));
        Checks.nothing("broken in the last one", () -> Checks.busy(0, 2, 2, 3), -6, x -> x.adopt(0));
        Checks.nothing("broken in the first one", () -> Checks.busy(0, 2, 3, 2), -6, x -> x.adopt(0));
    }
}
