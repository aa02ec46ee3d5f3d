import java.util.Arrays;

/**
 * A desk with six registers for natural numbers of up to 128 bits: exact arithmetic on them,
 * orders and congruences of polynomials, and a way to tell prime numbers that is certain.
 *
 * <p>A number is a row of four words of 32 bits, the lowest first, each kept in a long so that
 * sums and products of words need no care for signs. All rows are made with the desk: a call
 * makes no object but the exception that it throws.
 */
public final class PrimalityDesk {
    private static final int REGISTERS = 6;
    private static final int WORDS = 4;
    private static final int WORD_BITS = 32;
    private static final long WORD_MASK = 0xFFFFFFFFL;

    private static final int GREATEST_ORDER_MODULUS = 1000;
    private static final int GREATEST_FOR_PRIME = 511;
    private static final int GREATEST_FOR_CONGRUENT = 4095;
    private static final int GREATEST_CONSTANT = 4095;
    private static final int GREATEST_DEGREE = 64;

    private final long[][] registers = new long[REGISTERS][WORDS];
    // Calls work here and not in a register, so that registers may coincide and a throw changes none.
    private final long[] result = new long[WORDS];
    private final long[] left = new long[WORDS];
    private final long[] right = new long[WORDS];
    private final long[] wide = new long[2 * WORDS];
    private final Division division = new Division();
    private final Roots roots = new Roots();
    private final Polynomial polynomial = new Polynomial();

    public PrimalityDesk() {
    }

    public void put(int to, long v) throws IndexOutOfBoundsException, IllegalArgumentException {
        checkRegister(to);
        if (v < 0) {
            throw new IllegalArgumentException("a register holds no number below 0");
        }
        Words.assign(registers[to], v);
    }

    public void append(int to, int w) throws IndexOutOfBoundsException, ArithmeticException {
        checkRegister(to);
        long[] words = registers[to];
        if (words[WORDS - 1] != 0) {
            throw new ArithmeticException("the number has more than 128 bits");
        }
        for (int i = WORDS - 1; i > 0; i--) {
            words[i] = words[i - 1];
        }
        words[0] = w & WORD_MASK;
    }

    public void add(int a, int b, int to) throws IndexOutOfBoundsException, ArithmeticException {
        checkRegisters(a, b, to);
        if (Words.sum(registers[a], registers[b], result) != 0) {
            throw new ArithmeticException("the sum has more than 128 bits");
        }
        Words.copy(result, registers[to]);
    }

    public void subtract(int a, int b, int to) throws IndexOutOfBoundsException, ArithmeticException {
        checkRegisters(a, b, to);
        if (Words.difference(registers[a], registers[b], result) != 0) {
            throw new ArithmeticException("the difference is less than 0");
        }
        Words.copy(result, registers[to]);
    }

    public void multiply(int a, int b, int to) throws IndexOutOfBoundsException, ArithmeticException {
        checkRegisters(a, b, to);
        Words.product(registers[a], registers[b], wide);
        if (Words.length(wide) > WORDS) {
            throw new ArithmeticException("the product has more than 128 bits");
        }
        Words.copy(wide, registers[to]);
    }

    public void divide(int a, int b, int quotient, int remainder)
            throws IndexOutOfBoundsException, IllegalArgumentException, ArithmeticException {
        checkRegisters(a, b, quotient);
        checkRegister(remainder);
        if (quotient == remainder) {
            throw new IllegalArgumentException("quotient and remainder need a register each");
        }
        if (Words.isZero(registers[b])) {
            throw new ArithmeticException("division by 0");
        }
        division.setDivisor(registers[b]);
        division.run(registers[a]);
        division.copyQuotient(registers[quotient]);
        division.copyRemainder(registers[remainder]);
    }

    public void power(int a, int e, int n, int to) throws IndexOutOfBoundsException, ArithmeticException {
        checkRegisters(a, e, n);
        checkRegister(to);
        if (Words.isZero(registers[n])) {
            throw new ArithmeticException("remainder by 0");
        }
        division.setDivisor(registers[n]);
        raiseToRemainder(registers[a], registers[e]);
        Words.copy(result, registers[to]);
    }

    public void gcd(int a, int b, int to) throws IndexOutOfBoundsException {
        checkRegisters(a, b, to);
        Words.copy(registers[a], left);
        Words.copy(registers[b], right);
        // The first step may only swap the two; then every two steps at least halve the greater one.
        int mostSteps = 2 * WORDS * WORD_BITS + 2;
        for (int step = 0; step < mostSteps && !Words.isZero(right); step++) {
            division.setDivisor(right);
            division.run(left);
            Words.copy(right, left);
            division.copyRemainder(right);
        }
        Words.copy(left, registers[to]);
    }

    public int compare(int a, int b) throws IndexOutOfBoundsException {
        checkRegister(a);
        checkRegister(b);
        return Words.comparison(registers[a], registers[b]);
    }

    public int bits(int a) throws IndexOutOfBoundsException {
        checkRegister(a);
        return Words.bitLength(registers[a]);
    }

    public long word(int a, int k) throws IndexOutOfBoundsException {
        checkRegister(a);
        if (k < 0 || k >= WORDS) {
            throw new IndexOutOfBoundsException("a word is 0 .. 3");
        }
        return registers[a][k];
    }

    public int perfect(int a) throws IndexOutOfBoundsException {
        checkRegister(a);
        return roots.leastExponent(registers[a]);
    }

    public int order(int a, int m)
            throws IndexOutOfBoundsException, IllegalArgumentException, ArithmeticException {
        checkRegister(a);
        if (m < 2 || m > GREATEST_ORDER_MODULUS) {
            throw new IllegalArgumentException("m is 2 .. 1000");
        }
        int found = SmallNumbers.orderOrZero(Words.remainderBy(registers[a], m), m);
        if (found == 0) {
            throw new ArithmeticException("the number and m have a common divisor");
        }
        return found;
    }

    public int modulus(int a) throws IndexOutOfBoundsException, UnsupportedOperationException {
        checkRegister(a);
        int n = Words.valueUpTo(registers[a], GREATEST_FOR_PRIME);
        if (n < 2 || n > GREATEST_FOR_PRIME) {
            throw new UnsupportedOperationException("the number is not 2 .. 511");
        }
        int k = Words.bitLength(registers[a]);
        return SmallNumbers.leastModulus(n, k * k);
    }

    public boolean congruent(int a, int m, int c)
            throws IndexOutOfBoundsException, IllegalArgumentException, UnsupportedOperationException {
        checkRegister(a);
        if (m < 1 || m > GREATEST_DEGREE) {
            throw new IllegalArgumentException("m is 1 .. 64");
        }
        if (c < 0 || c > GREATEST_CONSTANT) {
            throw new IllegalArgumentException("c is 0 .. 4095");
        }
        int n = Words.valueUpTo(registers[a], GREATEST_FOR_CONGRUENT);
        if (n < 2 || n > GREATEST_FOR_CONGRUENT) {
            throw new UnsupportedOperationException("the number is not 2 .. 4095");
        }
        return polynomial.isCongruent(n, m, c);
    }

    public boolean prime(int a) throws IndexOutOfBoundsException, UnsupportedOperationException {
        checkRegister(a);
        int n = Words.valueUpTo(registers[a], GREATEST_FOR_PRIME);
        if (n > GREATEST_FOR_PRIME) {
            throw new UnsupportedOperationException("the number is greater than 511");
        }
        return SmallNumbers.isPrime(n);
    }

    private static void checkRegister(int register) {
        if (register < 0 || register >= REGISTERS) {
            throw new IndexOutOfBoundsException("a register is 0 .. 5");
        }
    }

    private static void checkRegisters(int first, int second, int third) {
        checkRegister(first);
        checkRegister(second);
        checkRegister(third);
    }

    /** Sets the result to the remainder of the power by the divisor that the division has been given. */
    private void raiseToRemainder(long[] base, long[] exponent) {
        Words.assign(result, 1);
        // By 1 even the power 0 leaves 0, so the 1 to begin with is reduced too.
        division.run(result);
        division.copyRemainder(result);
        for (int k = Words.bitLength(exponent) - 1; k >= 0; k--) {
            multiplyResult(result);
            if (Words.hasBit(exponent, k)) {
                multiplyResult(base);
            }
        }
    }

    private void multiplyResult(long[] factor) {
        Words.product(result, factor, wide);
        division.run(wide);
        division.copyRemainder(result);
    }

    /** Functions of rows of words, the lowest word first; a row of a number has four, of a product eight. */
    private static final class Words {
        private Words() {
        }

        static void assign(long[] to, long v) {
            Arrays.fill(to, 0);
            to[0] = v & WORD_MASK;
            to[1] = v >>> WORD_BITS;
        }

        /** Copies the lower four words. */
        static void copy(long[] from, long[] to) {
            System.arraycopy(from, 0, to, 0, WORDS);
        }

        /** How many words are left without the zeros at the top. */
        static int length(long[] x) {
            int length = x.length;
            while (length > 0 && x[length - 1] == 0) {
                length--;
            }
            return length;
        }

        static boolean isZero(long[] x) {
            return length(x) == 0;
        }

        static int bitsOfWord(long w) {
            int bits = 0;
            while (bits < WORD_BITS && (w >>> bits) != 0) {
                bits++;
            }
            return bits;
        }

        static int bitLength(long[] x) {
            int length = length(x);
            return length == 0 ? 0 : (length - 1) * WORD_BITS + bitsOfWord(x[length - 1]);
        }

        static boolean hasBit(long[] x, int k) {
            return (x[k / WORD_BITS] >>> (k % WORD_BITS) & 1) == 1;
        }

        static int comparison(long[] x, long[] y) {
            for (int i = WORDS - 1; i >= 0; i--) {
                if (x[i] != y[i]) {
                    return x[i] < y[i] ? -1 : 1;
                }
            }
            return 0;
        }

        /** Answers what is carried out of the highest word. */
        static long sum(long[] x, long[] y, long[] out) {
            long carry = 0;
            for (int i = 0; i < WORDS; i++) {
                long t = x[i] + y[i] + carry;
                out[i] = t & WORD_MASK;
                carry = t >>> WORD_BITS;
            }
            return carry;
        }

        /** Answers what is borrowed by the highest word: 1 if x is less than y, else 0. */
        static long difference(long[] x, long[] y, long[] out) {
            long borrow = 0;
            for (int i = 0; i < WORDS; i++) {
                long t = x[i] - y[i] - borrow;
                out[i] = t & WORD_MASK;
                borrow = t < 0 ? 1 : 0;
            }
            return borrow;
        }

        /** The product of two rows of four words, in eight. */
        static void product(long[] x, long[] y, long[] out) {
            Arrays.fill(out, 0);
            for (int i = 0; i < WORDS; i++) {
                long carry = 0;
                for (int j = 0; j < WORDS; j++) {
                    // At most 2^64 - 1, so no bit is lost; >>> takes it without a sign.
                    long t = x[i] * y[j] + out[i + j] + carry;
                    out[i + j] = t & WORD_MASK;
                    carry = t >>> WORD_BITS;
                }
                out[i + WORDS] = carry;
            }
        }

        static int remainderBy(long[] x, int m) {
            long rest = 0;
            for (int i = WORDS - 1; i >= 0; i--) {
                rest = (rest << WORD_BITS | x[i]) % m;
            }
            return (int) rest;
        }

        /** The number itself if it is not greater than the limit, else the limit + 1. */
        static int valueUpTo(long[] x, int limit) {
            return length(x) > 1 || x[0] > limit ? limit + 1 : (int) x[0];
        }
    }

    /**
     * Long division, word by word, of rows of up to eight words by rows of four. The divisor is
     * given first, so that a power prepares it only once.
     */
    private static final class Division {
        private final long[] divisor = new long[WORDS];
        private final long[] rest = new long[2 * WORDS + 1];
        private final long[] quotient = new long[2 * WORDS];
        private int size;
        private int shift;

        /** The divisor is greater than 0. */
        void setDivisor(long[] x) {
            size = Words.length(x);
            // With the highest bit of the highest word set, a guessed digit is at most 2 too great.
            shift = WORD_BITS - Words.bitsOfWord(x[size - 1]);
            shiftUp(x, size, divisor);
        }

        void run(long[] dividend) {
            Arrays.fill(quotient, 0);
            Arrays.fill(rest, 0);
            int length = Words.length(dividend);
            rest[length] = shiftUp(dividend, length, rest);
            for (int j = length - size; j >= 0; j--) {
                quotient[j] = nextDigit(j);
            }
        }

        void copyQuotient(long[] to) {
            Words.copy(quotient, to);
        }

        void copyRemainder(long[] to) {
            Arrays.fill(to, 0);
            for (int i = 0; i < size; i++) {
                to[i] = (rest[i] >>> shift | rest[i + 1] << (WORD_BITS - shift)) & WORD_MASK;
            }
        }

        /** Answers the bits that leave the highest word. */
        private long shiftUp(long[] from, int length, long[] to) {
            long out = 0;
            for (int i = 0; i < length; i++) {
                to[i] = (from[i] << shift | out) & WORD_MASK;
                out = from[i] >>> (WORD_BITS - shift);
            }
            return out;
        }

        private long nextDigit(int j) {
            long digit = guessDigit(j);
            boolean below = takeAway(digit, j);
            for (int again = 0; again < 2 && below; again++) {
                digit--;
                below = !giveBack(j);
            }
            return digit;
        }

        /** The digit that the two highest words of the rest ask for: the right one, or 1 or 2 more. */
        private long guessDigit(int j) {
            long top = divisor[size - 1];
            long high = rest[j + size];
            if (high >= top) {
                return WORD_MASK;
            }
            long pair = high << WORD_BITS | rest[j + size - 1];
            // The pair may fill all 64 bits, and / takes a sign: so half of it is divided first.
            long guess = ((pair >>> 1) / top) << 1;
            return pair - guess * top >= top ? guess + 1 : guess;
        }

        /** Takes digit times the divisor from the rest at word j; answers whether it fell below 0. */
        private boolean takeAway(long digit, int j) {
            long carry = 0;
            long borrow = 0;
            for (int i = 0; i < size; i++) {
                long p = digit * divisor[i] + carry;
                carry = p >>> WORD_BITS;
                long t = rest[i + j] - (p & WORD_MASK) - borrow;
                rest[i + j] = t & WORD_MASK;
                borrow = t < 0 ? 1 : 0;
            }
            long t = rest[j + size] - carry - borrow;
            rest[j + size] = t & WORD_MASK;
            return t < 0;
        }

        /** Adds the divisor to the rest at word j; answers whether that brought it back from below 0. */
        private boolean giveBack(int j) {
            long carry = 0;
            for (int i = 0; i < size; i++) {
                long t = rest[i + j] + divisor[i] + carry;
                rest[i + j] = t & WORD_MASK;
                carry = t >>> WORD_BITS;
            }
            long t = rest[j + size] + carry;
            rest[j + size] = t & WORD_MASK;
            return t > WORD_MASK;
        }
    }

    /** Tells of which exponents a number has a whole root. */
    private static final class Roots {
        // A power with a composite exponent is one with each prime divisor of it too: the least is prime.
        private static final int[] EXPONENTS = {
            2, 3, 5, 7, 11, 13, 17, 19, 23, 29, 31, 37, 41, 43, 47, 53,
            59, 61, 67, 71, 73, 79, 83, 89, 97, 101, 103, 107, 109, 113, 127
        };

        private final long[] root = new long[WORDS];
        private final long[] raised = new long[WORDS];
        private final long[] wide = new long[2 * WORDS];

        int leastExponent(long[] x) {
            int bits = Words.bitLength(x);
            for (int exponent : EXPONENTS) {
                // With as many bits or fewer the number is less than 2 to the power exponent.
                if (exponent < bits && hasRoot(x, bits, exponent)) {
                    return exponent;
                }
            }
            return 0;
        }

        private boolean hasRoot(long[] x, int bits, int exponent) {
            Arrays.fill(root, 0);
            for (int k = (bits - 1) / exponent; k >= 0; k--) {
                flipRootBit(k);
                int side = compareRaisedRoot(exponent, x);
                if (side == 0) {
                    return true;
                }
                if (side > 0) {
                    flipRootBit(k);
                }
            }
            return false;
        }

        private void flipRootBit(int k) {
            root[k / WORD_BITS] ^= 1L << (k % WORD_BITS);
        }

        private int compareRaisedRoot(int exponent, long[] x) {
            Words.copy(root, raised);
            for (int k = Words.bitsOfWord(exponent) - 2; k >= 0; k--) {
                if (!multiplyRaised(raised)) {
                    return 1;
                }
                if ((exponent >>> k & 1) == 1 && !multiplyRaised(root)) {
                    return 1;
                }
            }
            return Words.comparison(raised, x);
        }

        /** Answers whether the product is less than 2^128. */
        private boolean multiplyRaised(long[] factor) {
            Words.product(raised, factor, wide);
            Words.copy(wide, raised);
            return Words.length(wide) <= WORDS;
        }
    }

    /** Questions about numbers that an int holds with ease. */
    private static final class SmallNumbers {
        // The greatest modulus that a number 2 .. 511 needs is 167: the bound only shows that the search ends.
        private static final int MODULUS_BOUND = 1000;

        private SmallNumbers() {
        }

        /** The order of n by m, n being 0 .. m - 1 and m 2 .. 1000; 0 if they have a common divisor. */
        static int orderOrZero(int n, int m) {
            int power = n;
            // An order is less than m, and without a common divisor there is one.
            for (int k = 1; k < m; k++) {
                if (power == 1) {
                    return k;
                }
                power = power * n % m;
            }
            return 0;
        }

        /** The least m by which n has an order greater than the limit. */
        static int leastModulus(int n, int limit) {
            for (int m = 2; m < MODULUS_BOUND; m++) {
                if (orderOrZero(n % m, m) > limit) {
                    return m;
                }
            }
            return 0;
        }

        static boolean isPrime(int n) {
            for (int d = 2; d * d <= n; d++) {
                if (n % d == 0) {
                    return false;
                }
            }
            return n >= 2;
        }
    }

    /** A polynomial with powers of x below m, as remainders by x^m - 1, and coefficients below n. */
    private static final class Polynomial {
        private final int[] coefficients = new int[GREATEST_DEGREE];
        private final int[] square = new int[GREATEST_DEGREE];

        /** Whether (x + c)^n and x^n + c are congruent by n and m. */
        boolean isCongruent(int n, int m, int c) {
            raiseBinomial(n, m, c);
            coefficients[n % m] -= 1;
            coefficients[0] -= c;
            for (int i = 0; i < m; i++) {
                if (coefficients[i] % n != 0) {
                    return false;
                }
            }
            return true;
        }

        private void raiseBinomial(int n, int m, int c) {
            Arrays.fill(coefficients, 0);
            coefficients[0] = 1;
            for (int k = Words.bitsOfWord(n) - 1; k >= 0; k--) {
                squareBy(n, m);
                if ((n >>> k & 1) == 1) {
                    multiplyByBinomial(n, m, c);
                }
            }
        }

        private void squareBy(int n, int m) {
            for (int i = 0; i < m; i++) {
                square[i] = squareCoefficient(i, m) % n;
            }
            System.arraycopy(square, 0, coefficients, 0, m);
        }

        private int squareCoefficient(int i, int m) {
            // 64 products of numbers below 4095 are less than 2^31: one remainder at the end will do.
            int sum = 0;
            for (int j = 0; j < m; j++) {
                int other = j <= i ? i - j : i - j + m;
                sum += coefficients[j] * coefficients[other];
            }
            return sum;
        }

        private void multiplyByBinomial(int n, int m, int c) {
            int highest = coefficients[m - 1];
            for (int i = m - 1; i > 0; i--) {
                coefficients[i] = (coefficients[i - 1] + c * coefficients[i]) % n;
            }
            coefficients[0] = (highest + c * coefficients[0]) % n;
        }
    }
}
