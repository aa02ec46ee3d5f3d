import java.math.BigInteger;

/** Promises 13 (perfect), 14 (order), 15 (modulus), 16 (congruent) and 17 (prime). */
public final class NumbersTest {
    private static final Check CHECK = new Check();

    public static void main(String[] args) {
        knownAnswers();
        allPowersAndTheirNeighbours();
        smallNumbersArePowersOrNot();
        ordersOfSmallNumbers();
        ordersOfGreatNumbers();
        moduliAndPrimes();
        congruencesByBinomials();
        congruencesAtTheEnds();
        CHECK.end();
    }

    private static void knownAnswers() {
        CHECK.call(Check.desk(4), "2", "perfect", 0);
        CHECK.call(Check.desk(8), "3", "perfect", 0);
        CHECK.call(Check.desk(32), "5", "perfect", 0);
        CHECK.call(Check.desk(729), "2", "perfect", 0);
        CHECK.call(Check.desk(3), "2", "order", 0, 4);
        CHECK.call(Check.desk(2), "9", "modulus", 0);
        CHECK.call(Check.desk(13), "true", "congruent", 0, 6, 5);
        CHECK.call(Check.desk(15), "false", "congruent", 0, 6, 2);
        CHECK.call(Check.desk(511), "false", "prime", 0);
        CHECK.call(Check.desk(503), "true", "prime", 0);
    }

    private static void allPowersAndTheirNeighbours() {
        for (int k = 2; k < 128; k++) {
            BigInteger greatest = greatestRoot(k);
            BigInteger[] roots = {BigInteger.TWO, BigInteger.valueOf(3), greatest, greatest.shiftRight(1),
                greatest.multiply(BigInteger.valueOf(2)).divide(BigInteger.valueOf(3))};
            for (BigInteger root : roots) {
                powerAndNeighbours(root.pow(k));
            }
        }
    }

    /** The greatest number whose k-th power a register holds. */
    private static BigInteger greatestRoot(int k) {
        BigInteger root = BigInteger.ZERO;
        for (int bit = 128 / k + 1; bit >= 0; bit--) {
            if (root.setBit(bit).pow(k).compareTo(Check.BEYOND) < 0) {
                root = root.setBit(bit);
            }
        }
        return root;
    }

    private static void powerAndNeighbours(BigInteger power) {
        for (int off = -1; off <= 1; off++) {
            BigInteger x = power.add(BigInteger.valueOf(off));
            if (x.signum() >= 0 && x.compareTo(Check.BEYOND) < 0) {
                CHECK.call(Check.desk(x), String.valueOf(Model.perfect(x)), "perfect", 0);
            }
        }
    }

    private static void smallNumbersArePowersOrNot() {
        for (int x = 0; x < 2000; x++) {
            CHECK.call(Check.desk(x), String.valueOf(leastExponent(x)), "perfect", 0);
        }
        CHECK.call(Check.desk(Check.BEYOND.subtract(BigInteger.ONE)), "0", "perfect", 0);
        CHECK.call(Check.desk(Check.twoTo(127)), "127", "perfect", 0);
        CHECK.call(Check.desk(Check.twoTo(121)), "11", "perfect", 0);
        CHECK.call(Check.desk(Check.twoTo(64).subtract(BigInteger.ONE).pow(2)), "2", "perfect", 0);
    }

    private static int leastExponent(int x) {
        for (int k = 2; k < 12; k++) {
            for (int b = 2; b * b <= x; b++) {
                if (BigInteger.valueOf(b).pow(k).equals(BigInteger.valueOf(x))) {
                    return k;
                }
            }
        }
        return 0;
    }

    private static void ordersOfSmallNumbers() {
        for (int m = 2; m <= 1000; m++) {
            int step = m < 60 || m > 990 ? 1 : 37;
            for (int n = 0; n <= 100; n += step) {
                CHECK.call(Check.desk(n), dueOrder(BigInteger.valueOf(n), m), "order", 0, m);
            }
        }
    }

    private static void ordersOfGreatNumbers() {
        for (BigInteger x : Check.edges()) {
            for (int m : new int[] {2, 3, 7, 16, 29, 255, 360, 997, 999, 1000}) {
                CHECK.call(Check.desk(x), dueOrder(x, m), "order", 0, m);
            }
        }
    }

    private static String dueOrder(BigInteger x, int m) {
        int order = Model.orderOrZero(x, BigInteger.valueOf(m));
        return order == 0 ? Model.ARITHMETIC : String.valueOf(order);
    }

    private static void moduliAndPrimes() {
        for (int n = 0; n < 600; n++) {
            boolean holds = n <= 511;
            String modulus = n >= 2 && holds ? String.valueOf(Model.modulus(BigInteger.valueOf(n))) : Model.UNSUPPORTED;
            CHECK.call(Check.desk(n), modulus, "modulus", 0);
            CHECK.call(Check.desk(n), holds ? String.valueOf(Model.prime(n)) : Model.UNSUPPORTED, "prime", 0);
        }
    }

    /** Another way than the model's: the coefficients of (x + c)^n by the binomial theorem. */
    private static void congruencesByBinomials() {
        for (int n = 2; n <= 130; n++) {
            for (int m : new int[] {1, 2, 3, 5, 8, 13, 31, 63, 64}) {
                for (int c : new int[] {0, 1, 2, 7, n - 1, n, n + 1, 4095}) {
                    CHECK.call(Check.desk(n), String.valueOf(congruentByBinomials(n, m, c)), "congruent", 0, m, c);
                }
            }
        }
    }

    private static boolean congruentByBinomials(int n, int m, int c) {
        BigInteger[] rest = Check.numbers(new long[m]);
        BigInteger coefficient = BigInteger.ONE;
        for (int j = 0; j <= n; j++) {
            BigInteger term = coefficient.multiply(BigInteger.valueOf(c).pow(n - j));
            rest[j % m] = rest[j % m].add(term);
            coefficient = coefficient.multiply(BigInteger.valueOf(n - j)).divide(BigInteger.valueOf(j + 1));
        }
        rest[n % m] = rest[n % m].subtract(BigInteger.ONE);
        rest[0] = rest[0].subtract(BigInteger.valueOf(c));
        for (BigInteger r : rest) {
            if (r.mod(BigInteger.valueOf(n)).signum() != 0) {
                return false;
            }
        }
        return true;
    }

    private static void congruencesAtTheEnds() {
        for (int n : new int[] {341, 561, 1105, 1729, 2047, 2821, 3277, 4033, 4091, 4093, 4094, 4095}) {
            for (int m = 1; m <= 64; m++) {
                for (int c : new int[] {0, 1, 2, 4094, 4095}) {
                    CHECK.call(Check.desk(n), String.valueOf(Model.congruent(n, m, c)), "congruent", 0, m, c);
                }
            }
        }
    }
}
