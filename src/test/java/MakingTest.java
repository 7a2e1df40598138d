import java.util.Arrays;

/** The sentences of sections 2 and 3 of the Description that name a boundary case. */
public final class MakingTest {
    public static void main(String[] args) {
        desk();
        told();
        sure();
        sureByAPrime();
        byAPrime();
        shortestOfSequences();
        shortestThatEndsIn0();
        making();
        combined();
        divided();
        ordersOfCombined();
        derived();
        derivedAtTheEdges();
        ordersOfDerived();
        machines();
        setsOfStates();
        fractions();
        Checks.end("MakingTest");
    }

    private static String terms(Backwardterms b, int name, int many) {
        StringBuilder s = new StringBuilder();
        for (int n = 0; n < many; n++) s.append(n == 0 ? "" : " ").append(b.term(name, n));
        return s.toString();
    }

    private static void made(String call, Backwardterms b, int got, int order, String text) {
        Checks.due(call, got, order);
        Checks.due("text of " + call, b.text(20), text);
    }

    // ---- section 2

    private static void desk() {
        Checks.sentence("the DESK is a row of at most 16 numbers of -99 to 99, at places from 0 on (none at first)");
        Backwardterms b = new Backwardterms();
        Checks.due("books(0)", b.books(0), 0);
        Checks.throwsJust("desk(0)", Checks.INDEX, () -> b.desk(0));
        for (int i = 0; i < 16; i++) {
            int number = i % 2 == 0 ? 99 - i : i - 99;
            Checks.due("lay", b.lay(1, number, 0, 0, 0, 0), i + 1);
            Checks.due("desk(" + i + ")", b.desk(i), number);
        }
        Checks.throwsJust("lay a 17th", Checks.STATE, () -> b.lay(1, 0, 0, 0, 0, 0));
        Checks.due("desk(0) and desk(15)", b.desk(0) + " " + b.desk(15), "99 -84");
        Checks.due("sweep", b.sweep(), 16);
        Checks.throwsJust("desk(0)", Checks.INDEX, () -> b.desk(0));
        Checks.due("lay from place 0 on again", b.lay(5, 99, -99, 0, 1, -1), 5);
        Checks.due("desk", b.desk(0) + " " + b.desk(1) + " " + b.desk(2) + " " + b.desk(3) + " " + b.desk(4), "99 -99 0 1 -1");
    }

    /** So many zeros, then 1, then zeros to the count: it is told by one ORDER more than zeros, each f being 0. */
    private static int[] late(int zeros, int count) {
        int[] numbers = new int[count];
        if (zeros < count) numbers[zeros] = 1;
        return numbers;
    }

    private static String find(Backwardterms b) {
        return b.found(0) + " " + b.found(1) + " " + b.found(2);
    }

    private static void told() {
        Checks.sentence("told by an ORDER L (0 to N): L is 0");
        for (int count = 0; count <= 16; count++) {
            Backwardterms b = Checks.withDesk(new int[count]);
            Checks.due("found of " + count + " zeros", find(b), "0 1 0");
            Checks.throwsJust("foundFactor(1)", Checks.ARGUMENT, () -> b.foundFactor(1));
            Checks.due("adopt", b.adopt(0) + " " + b.text(0), "0 0");
        }
        Checks.sentence("told by an ORDER L (0 to N): L is N");
        for (int count = 1; count <= 16; count++) {
            Backwardterms b = Checks.withDesk(late(count - 1, count));
            Checks.due("found of a late 1 in " + count, find(b), count + " 0 " + count);
            Checks.due("foundBy(2, 0)", b.foundBy(2, 0), count);
            for (int k = 1; k <= count; k++) Checks.due("f(" + k + ")", b.foundFactor(k) + b.foundBy(2, k), "unsure-7");
        }
        Checks.sentence("the SHORTEST recurrence of them has the least such L: one more number may make it longer");
        Backwardterms b = new Backwardterms();
        int[] numbers = {1, 2, 4, 8, 16, 33, 66, 99};
        String[] want = {"1 0 1", "1 1 0", "1 1 0", "1 1 0", "1 1 0", "5 0 4", "5 0 3", "5 0 2"};
        for (int i = 0; i < numbers.length; i++) {
            b.lay(1, numbers[i], 0, 0, 0, 0);
            Checks.due("found of " + (i + 1), find(b), want[i]);
        }
    }

    private static void sure() {
        Checks.sentence("it is SURE, if 2 * L is N or less: 2 * L is N, one less, one more");
        for (int order = 1; order <= 9; order++) {
            for (int count = order; count <= 16; count++) {
                Backwardterms b = Checks.withDesk(late(order - 1, count));
                boolean isSure = 2 * order <= count;
                String call = "the ORDER " + order + " of " + count;
                Checks.due("found of " + call, find(b), order + (isSure ? " 1 0" : " 0 " + (2 * order - count)));
                Checks.due("foundFactor of " + call, b.foundFactor(order), isSure ? "0" : "unsure");
                Checks.due("adopt of " + call, b.adopt(3), isSure ? order : -7);
                Checks.due("has of " + call, b.has(3), isSure);
            }
        }
        Checks.sentence("it is SURE, if 2 * L is N or less: 8 of 16, with fractions");
        int[] numbers = {1, 4, 9, 16, 26, 30, 99, -5, 7, 3, 2, 8, 4, 1, 6, 50};
        Backwardterms b = Checks.withDesk(Arrays.copyOf(numbers, 15));
        Checks.due("found of 15", find(b), "8 0 1");
        Checks.due("f(8)", b.foundFactor(8), "unsure");
        b.lay(1, 50, 0, 0, 0, 0);
        Checks.due("found of 16", find(b), "8 1 0");
        Checks.due("f(8)", b.foundFactor(8), "-7416713575921/509315785095080");
        Checks.due("adopt", b.adopt(0), -6);
    }

    private static void sureByAPrime() {
        Checks.sentence("BY A PRIME p: the same; it is SURE, if 2 * L is N or less");
        for (int prime : new int[] {2, 3, 7, 97}) {
            for (int order = 1; order <= 9; order++) {
                for (int count = order; count <= 16; count++) {
                    Backwardterms b = Checks.withDesk(late(order - 1, count));
                    String call = "the ORDER " + order + " of " + count;
                    Checks.due("foundBy(" + prime + ", 0) of " + call, b.foundBy(prime, 0), order);
                    Checks.due("foundBy(" + prime + ", k) of " + call, b.foundBy(prime, order), 2 * order <= count ? 0 : -7);
                }
            }
        }
    }

    private static void byAPrime() {
        Checks.sentence("BY A PRIME p: all numbers MOD p, and f(1) to f(L) of 0 to p - 1");
        Backwardterms b = Checks.withDesk(1, -1, 1);
        Checks.due("f(1) by 97", b.foundBy(97, 1), 96);
        Checks.due("f(1) by 2", b.foundBy(2, 1), 1);
        Checks.put(b, 1, 99);
        Checks.due("f(1) by 97", b.foundBy(97, 1), 2);
        Checks.due("f(1) by 3", b.foundBy(3, 1), 0);
        Checks.put(b, -1, -98);
        Checks.due("f(1) by 97", b.foundBy(97, 1), 1);
        Checks.sentence("BY A PRIME p: it may be shorter than over fractions, and 0 if p divides all");
        Checks.put(b, 97, -97, 0, 97);
        Checks.due("by 97", b.foundBy(97, 0), 0);
        Checks.throwsJust("f(1) by 97", Checks.ARGUMENT, () -> b.foundBy(97, 1));
        Checks.due("by 2", b.foundBy(2, 0) + " " + b.foundBy(2, 1) + " " + b.foundBy(2, 2), "2 1 1");
        Checks.put(b, 0, 0, 0, 7);
        Checks.due("by 7", b.foundBy(7, 0), 0);
        Checks.due("by 5", b.foundBy(5, 0) + " " + b.foundBy(5, 4), "4 -7");
        Checks.due("over fractions", find(b), "4 0 4");
        b.sweep();
        Checks.due("an empty desk by 2", b.foundBy(2, 0), 0);
        Checks.throwsJust("an empty desk by 2", Checks.ARGUMENT, () -> b.foundBy(2, 1));
    }

    private static void shortest(String call, int had, int least, String fraction, int... numbers) {
        Backwardterms b = new Backwardterms();
        Checks.tell(b, 0, had, numbers);
        Checks.due("ofSequence " + call, b.ofSequence(0, 0) + " " + b.ofSequence(0, 1), had + " " + least);
        Checks.due("fraction " + call, b.fraction(0), fraction);
        String before = terms(b, 0, 30);
        Checks.due("shorten " + call, b.shorten(0), had - least);
        Checks.due("terms " + call, terms(b, 0, 30), before);
        Checks.due("ofSequence after " + call, b.ofSequence(0, 0) + " " + b.ofSequence(0, 1), least + " " + least);
        Checks.due("fraction after " + call, b.fraction(0), fraction);
        Checks.due("again " + call, b.shorten(0), 0);
    }

    private static void shortestOfSequences() {
        Checks.sentence("the SHORTEST recurrence of a SEQUENCE of the ORDER k: of k less, to 0");
        for (int order = 0; order <= 4; order++) {
            int[] numbers = new int[2 * order];
            Arrays.fill(numbers, 0, order, 99);
            shortest("zeros of " + order, order, 0, "0 / 1", numbers);
        }
        Checks.sentence("the SHORTEST recurrence of a SEQUENCE of the ORDER k: of 4 to 1, 2, 3, 4");
        shortest("1 everywhere", 4, 1, "1 / 1 -1", 0, 0, 0, 1, 1, 1, 1, 1);
        shortest("by turns", 4, 2, "1 2 / 1 0 -1", 0, 0, 0, 1, 1, 2, 1, 2);
        shortest("n", 4, 2, "0 1 / 1 -2 1", 4, -6, 4, -1, 0, 1, 2, 3);
        shortest("squares", 4, 3, "0 1 1 / 1 -3 3 -1", 4, -6, 4, -1, 0, 1, 4, 9);
        shortest("cubes", 4, 4, "0 1 4 1 / 1 -4 6 -4 1", 4, -6, 4, -1, 0, 1, 8, 27);
        shortest("of the ORDER 1", 1, 1, "-99 / 1 99", -99, -99);
        shortest("two to one", 2, 1, "4 / 1 -1", 3, -2, 4, 4);
        shortest("two to two", 2, 2, "4 -7 / 1 -3 2", 3, -2, 4, 5);
    }

    private static void shortestThatEndsIn0() {
        Checks.sentence("the SHORTEST recurrence may have c(L) = 0; it tells all TERMS from 0 on");
        shortest("0 0 0 1 0", 4, 4, "0 0 0 1 / 1 0 0 0 0", 0, 0, 0, 0, 0, 0, 0, 1);
        shortest("1 0 0 0 0", 4, 1, "1 / 1 0", 0, 0, 0, 0, 1, 0, 0, 0);
        shortest("0 5 0 0 0", 4, 2, "0 5 / 1 0 0", 0, 0, 0, 0, 0, 5, 0, 0);
        shortest("5 3 3 3", 2, 2, "5 -2 / 1 -1 0", 1, 0, 5, 3);
        shortest("5 3 3 3 by 4", 4, 2, "5 -2 / 1 -1 0", 1, 0, 0, 0, 5, 3, 3, 3);
        shortest("9 5 3 3", 3, 3, "9 -4 -2 / 1 -1 0 0", 1, 0, 0, 9, 5, 3);
    }

    private static void making() {
        Checks.sentence("to MAKE: if B is more than 8, this is refused (ahead of all else)");
        Checks.nothing("with B 8", () -> Checks.busy(1), -5, b -> b.combine(20, 5, 3, 4));
        Checks.nothing("crooked with B 9", () -> Checks.busy(1), Checks.STATE, b -> b.combine(20, 8, 25, 4));
        Checks.nothing("it would be 0", () -> Checks.busy(1), Checks.STATE, b -> b.combine(20, 8, 8, 1));
        Checks.nothing("it would be 0", () -> Checks.busy(1), Checks.STATE, b -> b.combine(20, 6, 5, 2));
        Checks.nothing("it would be 0", () -> Checks.busy(0, 0, 0, 0, 0, 0, 0, 0, 0, 1), Checks.STATE, b -> b.read(20, 9));
        Checks.nothing("into its own NAME", () -> Checks.busy(1), Checks.STATE, b -> b.combine(8, 8, 2, 0));
        Checks.sentence("to MAKE: its RECURRENCE is the SHORTEST one, with as many of the first ones as FIRST TERMS");
        Backwardterms b = Checks.busy();
        made("a - a", b, b.combine(20, 0, 0, 1), 0, "0");
        made("a + a", b, b.combine(20, 0, 0, 0), 2, "1 1 ; 0 2");
        made("g + a", b, b.combine(20, 6, 0, 0), 2, "1 1 ; 0 1");
        made("g + g", b, b.combine(20, 6, 6, 0), 0, "0");
        made("i by each of its eight", b, b.derive(20, 8, 2, 4), 2, "0 1 ; 1 0");
        made("z from 1 on", b, b.derive(20, 25, 3, 1), 1, "1 ; 3");
        made("g as it is", b, b.derive(20, 6, 4, 1), 0, "0");
    }

    // ---- section 3

    private static void combined() {
        Checks.sentence("two SEQUENCES (they may be the same), COMBINED by HOW 0 to 4");
        Backwardterms b = Checks.busy();
        made("c + c", b, b.combine(20, 2, 2, 0), 1, "2 ; 2");
        made("c - c", b, b.combine(20, 2, 2, 1), 0, "0");
        made("c * c", b, b.combine(20, 2, 2, 2), 1, "4 ; 1");
        made("c with c", b, b.combine(20, 2, 2, 3), 2, "4 -4 ; 1 4");
        made("c by c", b, b.combine(20, 2, 2, 4), 1, "0 ; 1");
        Checks.sentence("HOW 0 to 4 with a SEQUENCE of the ORDER 0, as the one, the other and both");
        made("d + a", b, b.combine(20, 3, 0, 0), 2, "1 1 ; 0 1");
        made("a + d", b, b.combine(20, 0, 3, 0), 2, "1 1 ; 0 1");
        made("d - a", b, b.combine(20, 3, 0, 1), 2, "1 1 ; 0 -1");
        made("a - d", b, b.combine(20, 0, 3, 1), 2, "1 1 ; 0 1");
        for (int how = 2; how <= 3; how++) {
            made("d and a", b, b.combine(20, 3, 0, how), 0, "0");
            made("a and d", b, b.combine(20, 0, 3, how), 0, "0");
        }
        for (int how = 0; how <= 3; how++) made("d and d", b, b.combine(20, 3, 3, how), 0, "0");
        made("d by c", b, b.combine(20, 3, 2, 4), 0, "0");
        Checks.sentence("HOW 3, the sum over all j of 0 to n: j is 0 and j is n");
        b.two(20, 0, 0, 3, 7);
        b.two(21, 0, 0, 5, 11);
        made("3 7 with 5 11", b, b.combine(20, 20, 21, 3), 3, "0 0 0 ; 15 68 77");
    }

    private static void divided() {
        Checks.sentence("HOW 4, d(n) (only if b(0) is 1 or -1)");
        Backwardterms b = Checks.busy();
        for (int first : new int[] {0, 2, -2, 3, 99, -99, 10}) {
            b.two(20, 1, 1, first, 1);
            Checks.due("b(0) is " + first, b.combine(21, 0, 20, 4), -5);
        }
        Checks.due("the ORDER 0: b(0) is 0", b.combine(21, 0, 3, 4), -5);
        Checks.due("both of the ORDER 0", b.combine(21, 3, 3, 4), -5);
        Checks.due("b(0) of the ORDER 8 is 1", b.combine(21, 3, 8, 4), 0);
        b.two(20, 1, 1, 1, 1);
        Checks.due("b(0) is 1", b.combine(21, 0, 20, 4) + " " + terms(b, 21, 4), "2 0 1 0 0");
        b.two(20, 1, 1, -1, -1);
        Checks.due("b(0) is -1", b.combine(21, 0, 20, 4) + " " + terms(b, 21, 4), "2 0 -1 0 0");
        b.two(20, 1, 1, -1, 3);
        Checks.due("b(0) is -1", b.combine(21, 0, 20, 4) + " " + terms(b, 21, 5), "2 0 -1 -4 -16 -64");
        Checks.due("a(0) is divided, too", b.combine(21, 1, 20, 4) + " " + terms(b, 21, 3), "2 -2 -7 -28");
    }

    private static void ordersOfCombined() {
        Checks.sentence("B is k * l for HOW 2, k + l for all others: the ORDER made reaches B = 8");
        Backwardterms b = Checks.busy();
        Checks.due("h + c", b.combine(20, 7, 2, 0), 8);
        Checks.due("h - c", b.combine(20, 7, 2, 1), 8);
        Checks.due("h with c", b.combine(20, 7, 2, 3), 8);
        Checks.due("c by h", b.combine(20, 2, 7, 4), 8);
        Checks.due("terms", terms(b, 20, 10), "1 2 4 8 16 32 64 127 254 508");
        Checks.due("e * a", b.combine(20, 4, 0, 2), 8);
        Checks.due("terms", terms(b, 20, 9), "0 1 1 4 9 30 80 234 651");
        Checks.due("i * c", b.combine(20, 8, 2, 2), 8);
        Checks.due("text", b.text(20), "0 0 0 0 0 0 0 256 ; 1 0 0 0 0 0 0 0");
    }

    private static void derived() {
        Checks.sentence("TERMS DERIVED by HOW 0 to 6 of a SEQUENCE");
        Backwardterms b = Checks.busy();
        made("sums", b, b.derive(20, 1, 0, 0), 3, "2 0 -1 ; 2 3 6");
        made("steps", b, b.derive(20, 1, 1, 0), 2, "1 1 ; -1 2");
        made("each third", b, b.derive(20, 1, 2, 3), 2, "4 1 ; 2 4");
        made("from 3 on", b, b.derive(20, 1, 3, 3), 2, "1 1 ; 4 7");
        made("thrice", b, b.derive(20, 1, 4, 3), 2, "1 1 ; 6 3");
        made("at each third", b, b.derive(20, 1, 5, 3), 6, "0 0 1 0 0 1 ; 2 0 0 1 0 0");
        made("n + 3 times", b, b.derive(20, 1, 6, 3), 4, "2 1 -2 -1 ; 6 4 15 24");
        Checks.sentence("TERMS DERIVED of a SEQUENCE of the ORDER 0");
        for (int how = 0; how <= 6; how++) made("how " + how, b, b.derive(20, 3, how, how < 2 ? 0 : 1), 0, "0");
        made("at each eighth", b, b.derive(20, 3, 5, 8), 0, "0");
    }

    private static void derivedAtTheEdges() {
        Checks.sentence("DERIVED with the least and the greatest x");
        Backwardterms b = Checks.busy();
        made("a(1 * n)", b, b.derive(20, 0, 2, 1), 2, "1 1 ; 0 1");
        made("a(6 * n)", b, b.derive(20, 0, 2, 6), 2, "18 -1 ; 0 8");
        made("a(n + 0)", b, b.derive(20, 0, 3, 0), 2, "1 1 ; 0 1");
        made("a(n + 20)", b, b.derive(20, 0, 3, 20), 2, "1 1 ; 6765 10946");
        made("-9 * a(n)", b, b.derive(20, 0, 4, -9), 2, "1 1 ; 0 -9");
        made("0 * a(n)", b, b.derive(20, 0, 4, 0), 0, "0");
        made("9 * a(n)", b, b.derive(20, 0, 4, 9), 2, "1 1 ; 0 9");
        made("a(n / 1)", b, b.derive(20, 0, 5, 1), 2, "1 1 ; 0 1");
        made("a(n / 8)", b, b.derive(20, 2, 5, 8), 8, "0 0 0 0 0 0 0 2 ; 1 0 0 0 0 0 0 0");
        made("(n - 9) * a(n)", b, b.derive(20, 2, 6, -9), 2, "4 -4 ; -9 -16");
        made("(n + 0) * a(n)", b, b.derive(20, 2, 6, 0), 2, "4 -4 ; 0 2");
        made("(n + 9) * a(n)", b, b.derive(20, 2, 6, 9), 2, "4 -4 ; 9 20");
        Checks.sentence("DERIVED of the ORDER 8, as far as a(8 * 2 - 1) by each sixth and from 20 on");
        b.derive(20, 8, 2, 6);
        Checks.due("a(6 * n)", terms(b, 20, 6), "1 0 0 0 1 0");
        b.derive(20, 8, 3, 20);
        Checks.due("a(n + 20)", terms(b, 20, 6), "0 0 0 0 1 0");
    }

    private static void ordersOfDerived() {
        Checks.sentence("DERIVED: B is k + 1, k, k, k, k, k * x and 2 * k, and the ORDER made reaches it");
        Backwardterms b = Checks.busy();
        Checks.due("sums of h", b.derive(20, 7, 0, 0) + " " + terms(b, 20, 9), "8 1 1 1 1 1 1 1 2 2");
        Checks.due("steps of e", b.derive(20, 4, 1, 0) + " " + terms(b, 20, 5), "4 1 0 1 1 3");
        Checks.due("each second of e", b.derive(20, 4, 2, 2) + " " + terms(b, 20, 5), "4 0 1 3 10 31");
        Checks.due("e from 1 on", b.derive(20, 4, 3, 1) + " " + terms(b, 20, 4), "4 1 1 2 3");
        Checks.due("-1 times e", b.derive(20, 4, 4, -1) + " " + terms(b, 20, 4), "4 0 -1 -1 -2");
        Checks.due("e at each second", b.derive(20, 4, 5, 2) + " " + terms(b, 20, 7), "8 0 0 1 0 1 0 2");
        Checks.due("n times e", b.derive(20, 4, 6, 0) + " " + terms(b, 20, 6), "8 0 1 2 6 12 30");
    }

    private static void machines() {
        Checks.sentence("a MACHINE has STATES 0 to s - 1: the least and the greatest STATE to which it goes");
        Backwardterms b = Checks.withDesk(3, 2, 1, 0, 0, 0, 0, 0, 1, 1, 1, 1, 2, 3, 2, 3);
        for (int states = 1; states <= 4; states++) {
            Checks.put(b, 0, 0, 0, 0, 0, 0, 0, 0, 0, 0, 0, 0, 0, 0, 0, states - 1);
            Checks.due("all " + states, b.machine(20, states, 4, 1), 1);
            Checks.put(b, states);
            Checks.due("one more", b.machine(20, 1, 1, 1), -100);
            Checks.put(b, -1);
            Checks.due("one less", b.machine(20, 1, 1, 1), -100);
        }
        Checks.sentence("the first numbers of the DESK are its table: those behind do not matter");
        Checks.put(b, 1, 0, 99, -99);
        made("two states by turns", b, b.machine(20, 2, 1, 1), 2, "0 1 ; 1 0");
        Checks.sentence("the FAULT of the first place of the table that has no STATE");
        Checks.put(b, 0, 1, 2, -1, 0, 0);
        Checks.due("2 ahead of -1", b.machine(20, 2, 2, 1), -102);
        Checks.due("-1 is the first", b.machine(20, 3, 2, 1), -103);
        Checks.due("both are behind the table", b.machine(20, 2, 1, 1), 1);
        Checks.sentence("STATE by STATE, for each LETTER by LETTER");
        Checks.put(b, 1, 0, 2, 0, 2, 2);
        Checks.due("goes through 1 to 2", b.machine(20, 3, 2, 4) + " " + terms(b, 20, 5), "3 0 0 1 3 8");
        Checks.put(b, 0, 1, 2, 1, 2, 3, 2, 3, 0, 3, 0, 1);
        Checks.due("by LETTERS 0, 1, 2 round four", b.machine(20, 4, 3, 1) + " " + terms(b, 20, 5), "4 1 1 2 7 21");
    }

    private static void setsOfStates() {
        Checks.sentence("a set is the sum of 2^j for each j in it: of none, of each one, of all");
        Backwardterms b = Checks.withDesk(1, 2, 3, 0);
        made("none", b, b.machine(20, 4, 1, 0), 0, "0");
        made("0", b, b.machine(20, 4, 1, 1), 4, "0 0 0 1 ; 1 0 0 0");
        made("1", b, b.machine(20, 4, 1, 2), 4, "0 0 0 1 ; 0 1 0 0");
        made("2", b, b.machine(20, 4, 1, 4), 4, "0 0 0 1 ; 0 0 1 0");
        made("3", b, b.machine(20, 4, 1, 8), 4, "0 0 0 1 ; 0 0 0 1");
        made("0 and 2", b, b.machine(20, 4, 1, 5), 2, "0 1 ; 1 0");
        made("all", b, b.machine(20, 4, 1, 15), 1, "1 ; 1");
        Checks.sentence("TERM n is how many rows of n LETTERS lead to a STATE of the set: one row of 0 LETTERS, at STATE 0");
        Checks.put(b, 0, 0, 0, 0);
        made("four LETTERS", b, b.machine(20, 1, 4, 1), 1, "4 ; 1");
        made("no STATE", b, b.machine(20, 1, 4, 0), 0, "0");
        Checks.put(b, 1, 1, 1, 1, 1, 1, 1, 1);
        made("STATE 1 at once", b, b.machine(20, 2, 4, 2), 2, "4 0 ; 0 4");
        made("STATE 0 is left", b, b.machine(20, 2, 4, 1), 1, "0 ; 1");
    }

    private static void fractions() {
        Checks.sentence("a FRACTION: the sum over all j of 0 to n is p(n) (numbers that there are not are 0)");
        Backwardterms b = Checks.withDesk(1);
        made("0 / 1", b, b.read(20, 0), 0, "0");
        Checks.put(b, -1);
        made("0 / -1", b, b.read(20, 0), 0, "0");
        Checks.put(b, 1, -1, 5);
        made("nothing above", b, b.read(20, 0), 0, "0");
        Checks.put(b, 7, 1);
        made("7 / 1", b, b.read(20, 1), 1, "0 ; 7");
        Checks.put(b, 7, -1);
        made("7 / -1", b, b.read(20, 1), 1, "0 ; -7");
        Checks.put(b, 7, -1, 1);
        made("7 / (-1 + x)", b, b.read(20, 1), 1, "1 ; -7");
        Checks.put(b, 1, 1, 1, 1, -1);
        made("(1 + x + x^2) / (1 - x)", b, b.read(20, 3), 3, "1 0 0 ; 1 2 3");
        Checks.put(b, 0, 0, 1, 1);
        made("x^2 / 1", b, b.read(20, 3), 3, "0 0 0 ; 0 0 1");
        Checks.sentence("read: B is the greater one of top and the others' count less 1, to 8");
        Checks.put(b, 1, 0, 0, 0, 0, 0, 0, 1, 1, 0, 0, 0, 0, 0, 0, 0);
        Checks.due("8 above, 8 below", b.read(20, 8) + " " + terms(b, 20, 9), "8 1 0 0 0 0 0 0 1 0");
        Checks.put(b, 1, 0, 0, 0, 0, 0, 0, 1, 0, 0, 0, 0, 0, 0, 1, -1);
        Checks.due("7 above, 9 below", b.read(20, 7) + " " + terms(b, 20, 10), "8 1 0 0 0 0 0 0 -1 1 0");
        Checks.due("6 above, 10 below", Checks.answer(() -> b.read(20, 6)), Checks.STATE);
        Checks.due("9 above, 7 below", Checks.answer(() -> b.read(20, 9)), Checks.STATE);
        Checks.due("15 above, 1 below", Checks.answer(() -> b.read(20, 15)), Checks.STATE);
        Checks.put(b, 0, 0, 0, 0, 0, 0, 0, 0, 0, 0, 0, 0, 0, 0, 0, 1);
        Checks.due("nothing above, 16 below", Checks.answer(() -> b.read(20, 0)), Checks.STATE);
    }
}
