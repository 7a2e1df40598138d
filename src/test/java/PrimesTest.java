import java.lang.reflect.Field;
import java.math.BigInteger;
import java.util.ArrayList;
import java.util.Arrays;
import java.util.List;

/**
 * The class finds SHORTEST recurrences by primes. A prime misses one, if it divides the determinant of its terms
 * i + j: so there must be more primes than can divide that of a recurrence which is not LONG, and SEQUENCES made for
 * it, whose determinant many of them divide, are told like others.
 */
public final class PrimesTest {
    private static final int MOST_ORDER = 8;
    private static final int BASE = 81;

    /** By which prime the determinant of the desk's first 15 numbers is 0, and the desk. */
    private static final int[][] DESKS = {
        {0, 66, -85, -57, 75, 34, 41, -25, -34, -63, -70, 13, -80, -68, 34, 71, -34},
        {0, -75, -12, -86, 35, 20, -99, -35, -57, -64, 37, -78, -52, 45, 25, 20, 30},
        {1, -13, 79, -84, -78, 46, -2, -40, -49, -28, -62, -43, 63, 17, -87, -72, -90},
        {2, 26, 65, -4, -7, -67, -19, -80, 4, 2, -44, 72, 29, -64, -12, -99, -98}};

    private static int wrong;

    public static void main(String[] args) throws ReflectiveOperationException {
        Field field = Backwardterms.class.getDeclaredField("PRIMES");
        field.setAccessible(true);
        int[] primes = (int[]) field.get(null);
        enough(primes);
        hostile(primes);
        desks(primes);
        if (wrong > 0) System.exit(1);
        System.out.println("PrimesTest: " + primes.length + " primes are enough");
    }

    private static void must(boolean isSo, String what) {
        if (isSo) return;
        wrong++;
        System.out.println("PrimesTest: " + what);
    }

    private static void enough(int[] primes) {
        BigInteger product = BigInteger.ONE;
        for (int i = 0; i < primes.length; i++) {
            must(BigInteger.valueOf(primes[i]).isProbablePrime(50), primes[i] + " is no prime");
            must(i == 0 || primes[i] < primes[i - 1], primes[i] + " stands there twice, or out of the row");
            product = product.multiply(BigInteger.valueOf(primes[i]));
        }
        must(product.pow(2).compareTo(squareOfMost()) > 0, "all primes can divide one determinant");
    }

    /** No determinant of a recurrence that is not LONG has a greater square: the rows' lengths, multiplied. */
    private static BigInteger squareOfMost() {
        List<BigInteger> most = new ArrayList<>();
        for (int n = 0; n < 2 * MOST_ORDER; n++) {
            BigInteger sum = BigInteger.ZERO;
            for (int i = 1; n >= MOST_ORDER && i <= MOST_ORDER; i++) sum = sum.add(most.get(n - i));
            most.add(n < MOST_ORDER ? BigInteger.valueOf(999999999) : sum.multiply(BigInteger.valueOf(999999)));
        }
        BigInteger product = BigInteger.ONE;
        for (int row = 0; row < MOST_ORDER; row++) {
            BigInteger square = BigInteger.ZERO;
            for (int i = 0; i < MOST_ORDER; i++) square = square.add(most.get(row + i).pow(2));
            product = product.multiply(square);
        }
        return product;
    }

    /** The first three primes divide what belongs to one SEQUENCE, the next three what belongs to another one. */
    private static void hostile(int[] primes) {
        Pair pair = new Pair();
        tell(pair, 0, new int[] {1, 0, -1, -1}, new int[] {3500105, -5620528, 7677096, -5995048});
        made(pair, "1 0 -1 -1 ; 3500105 -5620528 7677096 -5995048", "text", 0);
        tell(pair, 1, new int[] {0, 0, -1, -1}, new int[] {195836, -6378284, 1893896, -7904261});
        made(pair, "0 0 -1 -1 ; 195836 -6378284 1893896 -7904261", "text", 1);
        made(pair, 8, "combine", 2, 0, 1, 0);
        made(pair, 8, "combine", 3, 0, 1, 1);
        made(pair, 8, "derive", 4, 2, 4, -9);
        made(pair, 8, "derive", 5, 3, 3, 9);
        for (int name = 0; name <= 5 && wrong == 0; name++) {
            int least = name == 0 || name == 1 ? 3 : 6;
            int many = howManyDivide(primes, pair, name, name < 2 ? 4 : 8);
            must(many >= least, many + " primes divide the determinant of " + name + ", the test is made for " + least);
            made(pair, name < 2 ? 4 : 8, "ofSequence", name, 1);
            made(pair, null, "text", name);
            made(pair, null, "fraction", name);
            made(pair, 0, "shorten", name);
            made(pair, null, "derive", 6, name, 0, 0);
            made(pair, null, "derive", 6, name, 1, 0);
            made(pair, null, "derive", 6, name, 2, 3);
            made(pair, null, "combine", 6, name, name, 1);
            made(pair, null, "digest");
        }
    }

    private static void desks(int[] primes) {
        for (int[] numbers : DESKS) {
            Pair pair = new Pair();
            BigInteger[][] rows = new BigInteger[MOST_ORDER][MOST_ORDER];
            for (int at = 0; at < 16; at++) {
                int number = numbers[at + 1];
                made(pair, at + 1, "lay", 1, number, 0, 0, 0, 0);
                for (int i = 0; i < MOST_ORDER; i++) if (at >= i && at - i < MOST_ORDER) rows[i][at - i] = BigInteger.valueOf(number);
            }
            BigInteger rest = determinant(rows).mod(BigInteger.valueOf(primes[numbers[0]]));
            must(rest.signum() == 0, "a desk is not made for the prime " + primes[numbers[0]]);
            made(pair, 8, "found", 0);
            made(pair, 1, "found", 1);
            for (int k = 1; k <= MOST_ORDER; k++) made(pair, null, "foundFactor", k);
            made(pair, -6, "adopt", 0);
        }
    }

    /** Gives the name a SEQUENCE of such FIRST TERMS, digit by digit. */
    private static void tell(Pair pair, int name, int[] factors, int[] first) {
        int[] left = first.clone();
        int[][] digits = new int[5][factors.length];
        for (int[] row : digits) {
            for (int i = 0; i < row.length; i++) {
                row[i] = Math.floorMod(left[i] + BASE / 2, BASE) - BASE / 2;
                left[i] = (left[i] - row[i]) / BASE;
            }
        }
        must(Arrays.stream(left).allMatch(x -> x == 0), "the first terms have too many digits");
        made(pair, null, "tell", name, 0);
        for (int at = digits.length - 1; at >= 0; at--) {
            made(pair, null, "sweep");
            for (int f : factors) made(pair, null, "lay", 1, f, 0, 0, 0, 0);
            for (int d : digits[at]) made(pair, null, "lay", 1, d, 0, 0, 0, 0);
            made(pair, null, "tell", 25, factors.length);
            // base 81 is 9 times 9
            made(pair, null, "derive", name, name, 4, 9);
            made(pair, null, "derive", name, name, 4, 9);
            made(pair, null, "combine", name, name, 25, 0);
        }
    }

    private static void made(Pair pair, Object want, String name, Object... args) {
        if (wrong > 0) return;
        if (!pair.call(name, args)) wrong++;
        must(want == null || want.equals(pair.answer), name + Arrays.toString(args) + " answered " + pair.answer + ", due is " + want);
    }

    private static int howManyDivide(int[] primes, Pair pair, int name, int order) {
        BigInteger[][] rows = new BigInteger[order][order];
        for (int n = 0; n < 2 * order - 1; n++) {
            made(pair, null, "term", name, n);
            if (wrong > 0) return 0;
            BigInteger term = new BigInteger((String) pair.answer);
            for (int i = 0; i < order; i++) if (n - i >= 0 && n - i < order) rows[i][n - i] = term;
        }
        BigInteger determinant = determinant(rows);
        must(determinant.signum() != 0, "the determinant of " + name + " is 0");
        int many = 0;
        for (int p : primes) if (determinant.mod(BigInteger.valueOf(p)).signum() == 0) many++;
        return many;
    }

    /** By the first column. */
    private static BigInteger determinant(BigInteger[][] rows) {
        if (rows.length == 0) return BigInteger.ONE;
        BigInteger sum = BigInteger.ZERO;
        for (int at = 0; at < rows.length; at++) {
            BigInteger[][] less = new BigInteger[rows.length - 1][];
            for (int i = 0; i < less.length; i++) less[i] = Arrays.copyOfRange(rows[i < at ? i : i + 1], 1, rows.length);
            BigInteger part = rows[at][0].multiply(determinant(less));
            sum = at % 2 == 0 ? sum.add(part) : sum.subtract(part);
        }
        return sum;
    }
}
