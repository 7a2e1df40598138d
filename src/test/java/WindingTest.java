import java.util.Arrays;

/** The sentences of section 5 of the Description (winding, differences) that name a boundary case. */
public final class WindingTest {
    public static void main(String[] args) {
        noneAtFirst();
        noneFromThere();
        nowhere();
        twoTerms();
        sums();
        firstEight();
        differences();
        greatestDifferences();
        polynomial();
        degrees();
        farValues();
        Checks.end("WindingTest");
    }

    private static Backwardterms winds(int... numbers) {
        Backwardterms b = Checks.withDesk(numbers);
        b.wind();
        return b;
    }

    // ---- winding

    private static void noneAtFirst() {
        Checks.sentence("WINDING is a row of terms, none at first");
        Backwardterms b = Checks.withDesk(1, 1, 1, 1, 1, 1, 1, 1);
        Checks.due("books(3)", b.books(3), 0);
        for (int n = 0; n <= 40; n++) Checks.due("wound(" + n + ")", b.wound(n), "none");
        Checks.due("woundSum(0)", b.woundSum(0), "0");
        for (int many = 1; many <= 41; many++) Checks.due("woundSum(" + many + ")", b.woundSum(many), "none");
    }

    /** Terms to the one ahead of n, none from n on. */
    private static void ends(int u, int v, int n) {
        Backwardterms b = Checks.withDesk(u, v, 0, 0, 1, 0, 1, 1);
        String call = "u " + u + ", v " + v;
        Checks.due("wind() with " + call, b.wind(), n);
        Checks.due("books(3) with " + call, b.books(3), n);
        for (int i = 0; i <= 40; i++) Checks.due("wound(" + i + ") with " + call, b.wound(i).equals("none"), i >= n);
        for (int i = 0; i <= 41; i++) Checks.due("woundSum(" + i + ") with " + call, b.woundSum(i).equals("none"), i > n);
    }

    private static void noneFromThere() {
        Checks.sentence("from the first such n on for which u + v * n is 0 there are none: at each n of 2 to 40");
        for (int n = 2; n <= 40; n++) {
            ends(-n, 1, n);
            ends(n, -1, n);
        }
        ends(-98, 49, 2);
        ends(99, -33, 3);
        ends(-80, 2, 40);
        ends(78, -2, 39);
    }

    private static void nowhere() {
        Checks.sentence("from the first such n on for which u + v * n is 0: there is none of 2 to 40");
        ends(-41, 1, 41);
        ends(41, -1, 41);
        ends(-82, 2, 41);
        ends(1, 0, 41);
        ends(-99, 0, 41);
        ends(99, 99, 41);
        // half of an odd number
        ends(-5, 2, 41);
        // at 0 and at 1 it does not matter
        ends(0, 1, 41);
        ends(0, -99, 41);
        ends(-1, 1, 41);
        ends(7, -7, 41);
    }

    private static void twoTerms() {
        Checks.sentence("w(0) = f, w(1) = g: there are two in any case");
        ends(0, 0, 2);
        Backwardterms b = winds(0, 0, 99, 99, 99, 99, -99, 98);
        Checks.due("w(0), w(1), w(2)", b.wound(0) + " " + b.wound(1) + " " + b.wound(2), "-99 98 none");
        Checks.sentence("(u + v * n) * w(n) = (r + s * n) * w(n - 1) + (y + z * n) * w(n - 2), for n of 2 to 40");
        // w(2) = (7 * 13 + 17 * 11) / 5 with u 1, v 2, r 3, s 2, y 7, z 5, f 11, g 13
        b = winds(1, 2, 3, 2, 7, 5, 11, 13);
        Checks.due("w(2)", b.wound(2), "278/5");
        // w(3) = (9 * 278/5 + 22 * 13) / 7
        Checks.due("w(3)", b.wound(3), "3932/35");
        b = winds(1, 0, 2, 0, 0, 0, 1, 2);
        Checks.due("w(40)", b.wound(40), "1099511627776");
        b = winds(2, 0, 1, 0, 0, 0, 1, 1);
        Checks.due("w(40)", b.wound(40), "1/549755813888");
        b = winds(0, 1, 0, 0, 1, 0, 1, 0);
        // 1/2, 1/8, ...: by 2, 4, ..., 40
        Checks.due("w(4), w(39)", b.wound(4) + " " + b.wound(39), "1/8 0");
        Checks.due("w(40)", b.wound(40), "1/2551082656125828464640000");
    }

    private static void sums() {
        Checks.sentence("woundSum: \"none\", if there are not so many; \"0\" with many 0");
        Backwardterms b = winds(-5, 1, 1, 0, 0, 1, 2, 3);
        String[] want = {"0", "2", "5", "8/3", "-2/3", "12", "none"};
        for (int many = 0; many < want.length; many++) Checks.due("woundSum(" + many + ")", b.woundSum(many), want[many]);
        Checks.due("woundSum(41)", b.woundSum(41), "none");
        b = winds(1, 0, 1, 0, 0, 0, 1, 1);
        for (int many = 0; many <= 41; many++) Checks.due("woundSum(" + many + ")", b.woundSum(many), Integer.toString(many));
        b = winds(0, 0, 0, 0, 0, 0, 7, -7);
        Checks.due("woundSum(2)", b.woundSum(2), "0");
        Checks.due("woundSum(3)", b.woundSum(3), "none");
    }

    private static void firstEight() {
        Checks.sentence("tells WINDING by the first eight numbers of the DESK");
        Backwardterms b = Checks.withDesk(1, 0, 1, 0, 1, 0, 0, 1, 99, -99);
        Checks.due("wind()", b.wind(), 41);
        Checks.due("w(40)", b.wound(40), "102334155");
        b.sweep();
        Checks.due("w(40) without the desk", b.wound(40), "102334155");
        Checks.put(b, 1, 0, 1, 0, 1, 0, 0);
        Checks.throwsJust("wind() with seven", Checks.STATE, () -> b.wind());
        Checks.due("w(40) as before", b.wound(40), "102334155");
    }

    // ---- differences

    private static void differences() {
        Checks.sentence("row 0 has its numbers; row i + 1 has one place less");
        for (int count = 1; count <= 16; count++) {
            int[] numbers = new int[count];
            for (int i = 0; i < count; i++) numbers[i] = i * (i - 14);
            Backwardterms b = Checks.withDesk(numbers);
            for (int row = 0; row <= count; row++) {
                for (int place = 0; place <= count - row; place++) {
                    int at = place;
                    int of = row;
                    int want = row == 0 && place < count ? numbers[place] : row == 1 ? 2 * place - 13 : row == 2 ? 2 : 0;
                    Object due = row < count && place < count - row ? (Object) want : Checks.INDEX;
                    Checks.due("difference(" + row + ", " + place + ")", Checks.answer(() -> b.difference(of, at)), due);
                }
            }
        }
    }

    private static void greatestDifferences() {
        Checks.sentence("that of row i at place j + 1 less that at place j: the greatest and the least there can be");
        int[] turns = new int[16];
        for (int i = 0; i < 16; i++) turns[i] = i % 2 == 0 ? 99 : -99;
        Backwardterms b = Checks.withDesk(turns);
        for (int row = 0; row <= 15; row++) {
            for (int place = 0; place <= 15 - row; place++) {
                int want = 99 * (1 << row) * ((row + place) % 2 == 0 ? 1 : -1);
                Checks.due("difference(" + row + ", " + place + ")", b.difference(row, place), want);
            }
        }
        Checks.due("degree()", b.degree(), 15);
    }

    private static void polynomial() {
        Checks.sentence("the POLYNOMIAL of the DESK (without numbers it is 0); its DEGREE is NONE, if it is 0");
        Backwardterms b = new Backwardterms();
        for (int count = 0; count <= 16; count++) {
            Checks.due("degree() of " + count + " zeros", b.degree(), -1);
            for (int n : new int[] {-50, -1, 0, 1, 100}) Checks.due("value(" + n + ")", b.value(n), "0");
            if (count < 16) b.lay(1, 0, 0, 0, 0, 0);
        }
        Checks.sentence("that of the least degree: a number alone, numbers that are alike");
        for (int count = 1; count <= 16; count++) {
            int[] numbers = new int[count];
            Arrays.fill(numbers, -99);
            b = Checks.withDesk(numbers);
            Checks.due("degree() of " + count, b.degree(), 0);
            Checks.due("value(-50) and (100)", b.value(-50) + " " + b.value(100), "-99 -99");
        }
    }

    private static void degrees() {
        Checks.sentence("that of the least degree which has at 0, 1, 2, ... the numbers of the DESK: the degree N - 1, and less");
        for (int count = 1; count <= 16; count++) {
            int[] numbers = new int[count];
            numbers[count - 1] = 1;
            Backwardterms b = Checks.withDesk(numbers);
            Checks.due("degree() of a late 1 in " + count, b.degree(), count - 1);
            for (int n = 0; n < count; n++) Checks.due("value(" + n + ")", b.value(n), n == count - 1 ? "1" : "0");
            Checks.due("value(" + count + ")", b.value(count), Integer.toString(count));
            Checks.due("value(-1)", b.value(-1), count % 2 == 1 ? "1" : "-1");
        }
        int[][] desks = {{0, 1}, {0, 1, 2, 3}, {0, 1, 4, 9, 16}, {0, 1, 8, 27, 64}, {1, 2, 4, 7, 11}, {99, -99}, {0, 0, 1, 0, 0}};
        int[] want = {1, 1, 2, 3, 2, 1, 4};
        for (int i = 0; i < desks.length; i++) Checks.due("degree() of desk " + i, Checks.withDesk(desks[i]).degree(), want[i]);
    }

    private static void farValues() {
        Checks.sentence("promise 35, what the POLYNOMIAL is there: from -50 to 100");
        Backwardterms b = Checks.withDesk(0, 1, 4, 9);
        for (int n = -50; n <= 100; n++) Checks.due("value(" + n + ")", b.value(n), Integer.toString(n * n));
        Checks.put(b, 0, 1, 8, 27, 64);
        for (int n = -50; n <= 100; n++) Checks.due("value(" + n + ")", b.value(n), Integer.toString(n * n * n));
    }
}
