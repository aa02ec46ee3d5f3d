import java.math.BigInteger;

/**
 * The boundary cases that the promises name, sentence by sentence: the last value that is allowed, the
 * first that is not, and that a refused call changes nothing. The answers are written out here, not
 * worked out by the model.
 */
public final class BoundariesTest {
    private static final Check CHECK = new Check();
    private static final BigInteger ZERO = BigInteger.ZERO;
    private static final BigInteger ONE = BigInteger.ONE;
    private static final BigInteger TWO = BigInteger.TWO;
    private static final BigInteger GREATEST = two(128, -1);

    public static void main(String[] args) {
        putFromZero();
        appendTakesWordsWithoutSign();
        appendUpTo128Bits();
        addUpTo128Bits();
        subtractDownToZero();
        multiplyUpTo128Bits();
        divideNeedsTwoRegisters();
        divideNeedsADivisor();
        divideWholePartAndWhatIsLeft();
        powerZeroIsOne();
        powerNeedsAModulus();
        powerOfTheGreatest();
        gcdWithZero();
        compareNeighbours();
        bitsAtPowersOfTwo();
        wordsZeroToThree();
        perfectFromTwoSquared();
        orderModulusFrom2To1000();
        orderNeedsNoCommonDivisor();
        modulusFrom2To511();
        modulusOrderGreaterThanTheSquare();
        congruentDegreeFrom1To64();
        congruentConstantFrom0To4095();
        congruentNumberFrom2To4095();
        primeUpTo511();
        CHECK.end();
    }

    /** 2^k + off. */
    private static BigInteger two(int k, int off) {
        return Check.twoTo(k).add(BigInteger.valueOf(off));
    }

    private static BigInteger number(long value) {
        return BigInteger.valueOf(value);
    }

    private static BigInteger[] held(BigInteger... values) {
        return values;
    }

    private static BigInteger[] held(long... values) {
        return Check.numbers(values);
    }

    /** "[to] becomes v. IllegalArgumentException if v is less than 0." */
    private static void putFromZero() {
        BigInteger[] held = held(GREATEST, two(96, 5));
        CHECK.becomes(held, 0, ZERO, "put", 0, 0);
        CHECK.becomes(held, 1, ONE, "put", 1, 1);
        CHECK.becomes(held, 0, two(63, -1), "put", 0, Long.MAX_VALUE);
        CHECK.unchanged(held, Model.ARGUMENT, "put", 0, -1);
        CHECK.unchanged(held, Model.ARGUMENT, "put", 1, Long.MIN_VALUE);
    }

    /** "w taken as a number 0 .. 2^32 - 1 (its 32 bits without sign)" */
    private static void appendTakesWordsWithoutSign() {
        CHECK.becomes(held(0), 0, ZERO, "append", 0, 0);
        CHECK.becomes(held(0), 0, two(31, -1), "append", 0, Integer.MAX_VALUE);
        CHECK.becomes(held(0), 0, two(31, 0), "append", 0, Integer.MIN_VALUE);
        CHECK.becomes(held(0), 0, two(32, -1), "append", 0, -1);
        CHECK.becomes(held(1), 0, two(32, 0), "append", 0, 0);
        CHECK.becomes(held(1), 0, two(33, -1), "append", 0, -1);
    }

    /** "ArithmeticException if that is not less than 2^128." */
    private static void appendUpTo128Bits() {
        CHECK.becomes(held(two(96, -1)), 0, GREATEST, "append", 0, -1);
        CHECK.becomes(held(two(96, -1)), 0, GREATEST.subtract(two(32, -1)), "append", 0, 0);
        CHECK.unchanged(held(two(96, 0)), Model.ARITHMETIC, "append", 0, 0);
        CHECK.unchanged(held(two(96, 0)), Model.ARITHMETIC, "append", 0, -1);
        CHECK.unchanged(held(two(127, 0)), Model.ARITHMETIC, "append", 0, 0);
        CHECK.unchanged(held(GREATEST), Model.ARITHMETIC, "append", 0, -1);
    }

    /** "[to] becomes [a] + [b]. ArithmeticException if that is not less than 2^128." */
    private static void addUpTo128Bits() {
        CHECK.becomes(held(GREATEST, ZERO), 2, GREATEST, "add", 0, 1, 2);
        CHECK.becomes(held(two(128, -2), ONE), 2, GREATEST, "add", 0, 1, 2);
        CHECK.becomes(held(two(127, 0), two(127, -1)), 0, GREATEST, "add", 0, 1, 0);
        CHECK.becomes(held(two(96, -1), ONE), 1, two(96, 0), "add", 1, 0, 1);
        CHECK.becomes(held(0, 0), 2, ZERO, "add", 0, 1, 2);
        CHECK.unchanged(held(GREATEST, ONE), Model.ARITHMETIC, "add", 0, 1, 2);
        CHECK.unchanged(held(ONE, GREATEST), Model.ARITHMETIC, "add", 0, 1, 0);
        CHECK.unchanged(held(two(127, 0), two(127, 0)), Model.ARITHMETIC, "add", 0, 1, 1);
        CHECK.unchanged(held(GREATEST), Model.ARITHMETIC, "add", 0, 0, 0);
    }

    /** "[to] becomes [a] - [b]. ArithmeticException if that is less than 0." */
    private static void subtractDownToZero() {
        CHECK.becomes(held(GREATEST, GREATEST), 2, ZERO, "subtract", 0, 1, 2);
        CHECK.becomes(held(GREATEST), 0, ZERO, "subtract", 0, 0, 0);
        CHECK.becomes(held(0, 0), 2, ZERO, "subtract", 0, 1, 2);
        CHECK.becomes(held(GREATEST, ZERO), 2, GREATEST, "subtract", 0, 1, 2);
        CHECK.becomes(held(two(96, 0), ONE), 1, two(96, -1), "subtract", 0, 1, 1);
        CHECK.unchanged(held(0, 1), Model.ARITHMETIC, "subtract", 0, 1, 2);
        CHECK.unchanged(held(two(128, -2), GREATEST), Model.ARITHMETIC, "subtract", 0, 1, 0);
        CHECK.unchanged(held(two(96, -1), two(96, 0)), Model.ARITHMETIC, "subtract", 0, 1, 1);
        CHECK.unchanged(held(ZERO, GREATEST), Model.ARITHMETIC, "subtract", 0, 1, 1);
    }

    /** "[to] becomes [a] * [b]. ArithmeticException if that is not less than 2^128." */
    private static void multiplyUpTo128Bits() {
        CHECK.becomes(held(two(64, -1), two(64, 1)), 2, GREATEST, "multiply", 0, 1, 2);
        CHECK.becomes(held(GREATEST, ONE), 2, GREATEST, "multiply", 0, 1, 2);
        CHECK.becomes(held(ZERO, GREATEST), 1, ZERO, "multiply", 0, 1, 1);
        CHECK.becomes(held(two(127, -1), TWO), 0, two(128, -2), "multiply", 0, 1, 0);
        CHECK.becomes(held(two(64, -1)), 0, two(64, -1).pow(2), "multiply", 0, 0, 0);
        CHECK.unchanged(held(two(64, 0), two(64, 0)), Model.ARITHMETIC, "multiply", 0, 1, 2);
        CHECK.unchanged(held(two(127, 0), TWO), Model.ARITHMETIC, "multiply", 0, 1, 0);
        CHECK.unchanged(held(two(32, 0), two(96, 0)), Model.ARITHMETIC, "multiply", 0, 1, 1);
        CHECK.unchanged(held(GREATEST), Model.ARITHMETIC, "multiply", 0, 0, 0);
    }

    /** "IllegalArgumentException if quotient and remainder are the same register" */
    private static void divideNeedsTwoRegisters() {
        for (int register = 0; register < 6; register++) {
            CHECK.unchanged(held(100, 7, 1, 2, 3, 4), Model.ARGUMENT, "divide", 0, 1, register, register);
            CHECK.unchanged(held(100, 0, 1, 2, 3, 4), Model.ARGUMENT, "divide", 0, 1, register, register);
        }
    }

    /** "ArithmeticException if [b] is 0." */
    private static void divideNeedsADivisor() {
        CHECK.unchanged(held(GREATEST, ZERO), Model.ARITHMETIC, "divide", 0, 1, 2, 3);
        CHECK.unchanged(held(GREATEST, ZERO), Model.ARITHMETIC, "divide", 0, 1, 0, 1);
        CHECK.unchanged(held(0, 0), Model.ARITHMETIC, "divide", 0, 1, 1, 0);
        CHECK.unchanged(held(0, 9), Model.ARITHMETIC, "divide", 0, 0, 1, 2);
        CHECK.becomes(held(GREATEST, ONE), 2, GREATEST, "divide", 0, 1, 2, 3);
    }

    /** "[quotient] becomes the whole part of [a] / [b], [remainder] what is left." */
    private static void divideWholePartAndWhatIsLeft() {
        CHECK.becomes(held(ZERO, GREATEST), 2, ZERO, "divide", 0, 1, 2, 3);
        CHECK.becomes(held(GREATEST, GREATEST), 2, ONE, "divide", 0, 1, 2, 3);
        CHECK.becomes(held(two(128, -2), GREATEST), 3, two(128, -2), "divide", 0, 1, 2, 3);
        CHECK.becomes(held(1, 2), 3, ONE, "divide", 0, 1, 2, 3);
        CHECK.becomes(held(two(64, 0), two(32, 0)), 2, two(32, 0), "divide", 0, 1, 2, 3);
        PrimalityDesk desk = Check.desk(GREATEST, two(64, 0));
        CHECK.call(desk, "done", "divide", 0, 1, 1, 0);
        CHECK.registers("both arguments replaced", desk, two(64, -1), two(64, -1));
        CHECK.call(desk, "done", "divide", 0, 0, 0, 1);
        CHECK.registers("by itself", desk, ONE, ZERO);
    }

    /** "(any number to the power 0 is 1)": its remainder by 1 is 0 all the same. */
    private static void powerZeroIsOne() {
        CHECK.becomes(held(0, 0, 2), 3, ONE, "power", 0, 1, 2, 3);
        CHECK.becomes(held(ZERO, ZERO, GREATEST), 3, ONE, "power", 0, 1, 2, 3);
        CHECK.becomes(held(GREATEST, ZERO, TWO), 3, ONE, "power", 0, 1, 2, 3);
        CHECK.becomes(held(6, 0, 6), 3, ONE, "power", 0, 1, 2, 3);
        CHECK.becomes(held(0, 0, 1, 9), 3, ZERO, "power", 0, 1, 2, 3);
        CHECK.becomes(held(5, 0, 1, 9), 3, ZERO, "power", 0, 1, 2, 3);
        CHECK.becomes(held(0, 1, 2, 9), 3, ZERO, "power", 0, 1, 2, 3);
    }

    /** "ArithmeticException if [n] is 0." */
    private static void powerNeedsAModulus() {
        CHECK.unchanged(held(2, 3, 0, 9), Model.ARITHMETIC, "power", 0, 1, 2, 3);
        CHECK.unchanged(held(5, 0, 0, 9), Model.ARITHMETIC, "power", 0, 1, 2, 3);
        CHECK.unchanged(held(0, 9), Model.ARITHMETIC, "power", 0, 0, 0, 1);
        CHECK.unchanged(held(GREATEST, ZERO), Model.ARITHMETIC, "power", 0, 0, 1, 0);
        CHECK.becomes(held(GREATEST, GREATEST, ONE, TWO), 3, ZERO, "power", 0, 1, 2, 3);
    }

    /** All three arguments at the greatest number, and next to it. */
    private static void powerOfTheGreatest() {
        CHECK.becomes(held(GREATEST, GREATEST, GREATEST, TWO), 3, ZERO, "power", 0, 1, 2, 3);
        CHECK.becomes(held(two(128, -2), GREATEST, GREATEST), 3, two(128, -2), "power", 0, 1, 2, 3);
        CHECK.becomes(held(GREATEST, GREATEST, two(128, -2)), 3, ONE, "power", 0, 1, 2, 3);
        CHECK.becomes(held(two(128, -2), two(128, -2), GREATEST), 2, ONE, "power", 0, 1, 2, 2);
        CHECK.becomes(held(TWO, number(127), GREATEST), 0, two(127, 0), "power", 0, 1, 2, 0);
        CHECK.becomes(held(TWO, number(128), GREATEST), 1, ONE, "power", 0, 1, 2, 1);
    }

    /** "the other one if one of them is 0" */
    private static void gcdWithZero() {
        CHECK.becomes(held(ZERO, GREATEST), 2, GREATEST, "gcd", 0, 1, 2);
        CHECK.becomes(held(GREATEST, ZERO), 2, GREATEST, "gcd", 0, 1, 2);
        CHECK.becomes(held(0, 1), 0, ONE, "gcd", 0, 1, 0);
        CHECK.becomes(held(0, 0, 9), 2, ZERO, "gcd", 0, 1, 2);
        CHECK.becomes(held(GREATEST), 0, GREATEST, "gcd", 0, 0, 0);
        CHECK.becomes(held(GREATEST, two(128, -2)), 1, ONE, "gcd", 0, 1, 1);
        CHECK.becomes(held(GREATEST, ONE), 0, ONE, "gcd", 0, 1, 0);
        CHECK.becomes(held(two(127, 0), two(126, 0)), 2, two(126, 0), "gcd", 0, 1, 2);
    }

    /** "-1 if [a] is less than [b], 0 if they are equal, 1 if it is greater." */
    private static void compareNeighbours() {
        for (int k : new int[] {0, 31, 32, 63, 64, 95, 96, 127}) {
            BigInteger[] held = held(two(k, -1), two(k, 0), two(k, 0));
            CHECK.unchanged(held, "-1", "compare", 0, 1);
            CHECK.unchanged(held, "0", "compare", 1, 2);
            CHECK.unchanged(held, "0", "compare", 1, 1);
            CHECK.unchanged(held, "1", "compare", 2, 0);
        }
        CHECK.unchanged(held(ZERO, GREATEST), "-1", "compare", 0, 1);
        CHECK.unchanged(held(ZERO, GREATEST), "1", "compare", 1, 0);
        CHECK.unchanged(held(two(128, -2), GREATEST), "-1", "compare", 0, 1);
        CHECK.unchanged(held(two(32, 0), two(32, -1)), "1", "compare", 0, 1);
        CHECK.unchanged(held(0, 0), "0", "compare", 0, 1);
    }

    /** "The bits of [a]: 0 for 0." and "the least k such that it is less than 2^k" */
    private static void bitsAtPowersOfTwo() {
        CHECK.unchanged(held(ZERO), "0", "bits", 0);
        for (int k = 0; k < 128; k++) {
            CHECK.unchanged(held(two(k, 0)), String.valueOf(k + 1), "bits", 0);
            CHECK.unchanged(held(two(k + 1, -1)), String.valueOf(k + 1), "bits", 0);
        }
    }

    /** "word 0 is the lowest. IndexOutOfBoundsException also if k is not 0 .. 3." */
    private static void wordsZeroToThree() {
        BigInteger[] held = held(new BigInteger("ffffffff80000000000000007fffffff", 16));
        CHECK.unchanged(held, Model.INDEX, "word", 0, -1);
        CHECK.unchanged(held, "2147483647", "word", 0, 0);
        CHECK.unchanged(held, "0", "word", 0, 1);
        CHECK.unchanged(held, "2147483648", "word", 0, 2);
        CHECK.unchanged(held, "4294967295", "word", 0, 3);
        CHECK.unchanged(held, Model.INDEX, "word", 0, 4);
        CHECK.unchanged(held, Model.INDEX, "word", 5, 4);
        CHECK.unchanged(held, Model.INDEX, "word", -1, 4);
        CHECK.unchanged(held, Model.INDEX, "word", 6, 0);
    }

    /** "The least k >= 2 such that [a] is a number b >= 2 to the power k; 0 if there is none." */
    private static void perfectFromTwoSquared() {
        String[] due = {"0", "0", "0", "0", "2", "0", "0", "0", "3", "2", "0"};
        for (int n = 0; n < due.length; n++) {
            CHECK.unchanged(held(n), due[n], "perfect", 0);
        }
        CHECK.unchanged(held(64), "2", "perfect", 0);
        CHECK.unchanged(held(32768), "3", "perfect", 0);
        CHECK.unchanged(held(two(126, 0)), "2", "perfect", 0);
        CHECK.unchanged(held(two(127, -1)), "0", "perfect", 0);
        CHECK.unchanged(held(two(127, 0)), "127", "perfect", 0);
        CHECK.unchanged(held(two(127, 1)), "0", "perfect", 0);
        CHECK.unchanged(held(two(113, 0)), "113", "perfect", 0);
        CHECK.unchanged(held(number(3).pow(79)), "79", "perfect", 0);
        CHECK.unchanged(held(number(3).pow(80)), "2", "perfect", 0);
        CHECK.unchanged(held(two(64, -1).pow(2)), "2", "perfect", 0);
        CHECK.unchanged(held(two(64, -1).pow(2).add(ONE)), "0", "perfect", 0);
        CHECK.unchanged(held(new BigInteger("6981463658331").pow(3)), "3", "perfect", 0);
        CHECK.unchanged(held(GREATEST), "0", "perfect", 0);
    }

    /** "IllegalArgumentException if m is not 2 .. 1000" */
    private static void orderModulusFrom2To1000() {
        BigInteger[] held = held(number(3), ONE, GREATEST, number(7), number(999), ZERO);
        CHECK.unchanged(held, Model.ARGUMENT, "order", 0, -2);
        CHECK.unchanged(held, Model.ARGUMENT, "order", 0, 0);
        CHECK.unchanged(held, Model.ARGUMENT, "order", 0, 1);
        CHECK.unchanged(held, "1", "order", 0, 2);
        CHECK.unchanged(held, "100", "order", 0, 1000);
        CHECK.unchanged(held, Model.ARGUMENT, "order", 0, 1001);
        CHECK.unchanged(held, "1", "order", 1, 2);
        CHECK.unchanged(held, "1", "order", 1, 1000);
        CHECK.unchanged(held, "1", "order", 2, 2);
        CHECK.unchanged(held, "2", "order", 4, 1000);
        CHECK.unchanged(held, "996", "order", 3, 997);
        CHECK.unchanged(held, Model.ARGUMENT, "order", 5, 0);
        CHECK.unchanged(held, Model.ARGUMENT, "order", 5, 1001);
    }

    /** "ArithmeticException if [a] and m have a common divisor greater than 1." */
    private static void orderNeedsNoCommonDivisor() {
        CHECK.unchanged(held(ZERO), Model.ARITHMETIC, "order", 0, 2);
        CHECK.unchanged(held(ZERO), Model.ARITHMETIC, "order", 0, 1000);
        CHECK.unchanged(held(2), Model.ARITHMETIC, "order", 0, 2);
        CHECK.unchanged(held(2), Model.ARITHMETIC, "order", 0, 1000);
        CHECK.unchanged(held(5), Model.ARITHMETIC, "order", 0, 1000);
        CHECK.unchanged(held(997), Model.ARITHMETIC, "order", 0, 997);
        CHECK.unchanged(held(996), "2", "order", 0, 997);
        CHECK.unchanged(held(998), "1", "order", 0, 997);
        CHECK.unchanged(held(GREATEST), Model.ARITHMETIC, "order", 0, 3);
        CHECK.unchanged(held(two(127, 0)), Model.ARITHMETIC, "order", 0, 998);
        CHECK.unchanged(held(two(127, 0)), "2", "order", 0, 3);
        CHECK.unchanged(held(two(127, 1)), Model.ARITHMETIC, "order", 0, 3);
    }

    /** "UnsupportedOperationException if [a] is not 2 .. 511." */
    private static void modulusFrom2To511() {
        CHECK.unchanged(held(0), Model.UNSUPPORTED, "modulus", 0);
        CHECK.unchanged(held(1), Model.UNSUPPORTED, "modulus", 0);
        CHECK.unchanged(held(2), "9", "modulus", 0);
        CHECK.unchanged(held(511), "83", "modulus", 0);
        CHECK.unchanged(held(512), Model.UNSUPPORTED, "modulus", 0);
        refusedBeyondTheLowestWord(2, "modulus", 0);
    }

    /** "the order of [a] by m is greater than k * k, k being the bits of [a]": the order of 2 by 5 is 4, just not. */
    private static void modulusOrderGreaterThanTheSquare() {
        CHECK.unchanged(held(2), "4", "order", 0, 5);
        CHECK.unchanged(held(2), "6", "order", 0, 9);
        CHECK.unchanged(held(3), "7", "modulus", 0);
        CHECK.unchanged(held(4), "23", "modulus", 0);
        CHECK.unchanged(held(10), "19", "modulus", 0);
        CHECK.unchanged(held(255), "71", "modulus", 0);
        CHECK.unchanged(held(256), "167", "modulus", 0);
    }

    /** "IllegalArgumentException if m is not 1 .. 64", and powers of x come round at m. */
    private static void congruentDegreeFrom1To64() {
        for (long m : new long[] {Integer.MIN_VALUE, -1, 0, 65, Integer.MAX_VALUE}) {
            CHECK.unchanged(held(61), Model.ARGUMENT, "congruent", 0, m, 1);
            CHECK.unchanged(held(1), Model.ARGUMENT, "congruent", 0, m, 1);
        }
        CHECK.unchanged(held(341), "true", "congruent", 0, 1, 1);
        CHECK.unchanged(held(6), "true", "congruent", 0, 1, 2);
        CHECK.unchanged(held(6), "false", "congruent", 0, 2, 2);
        CHECK.unchanged(held(4), "false", "congruent", 0, 1, 1);
        CHECK.unchanged(held(4), "true", "congruent", 0, 1, 3);
        CHECK.unchanged(held(61), "true", "congruent", 0, 61, 60);
        CHECK.unchanged(held(59), "true", "congruent", 0, 64, 1);
        CHECK.unchanged(held(63), "false", "congruent", 0, 64, 1);
        CHECK.unchanged(held(64), "false", "congruent", 0, 64, 1);
    }

    /** "or c is not 0 .. 4095": a multiple of [a] counts as 0, and then all is congruent. */
    private static void congruentConstantFrom0To4095() {
        for (long c : new long[] {Integer.MIN_VALUE, -1, 4096, Integer.MAX_VALUE}) {
            CHECK.unchanged(held(61), Model.ARGUMENT, "congruent", 0, 7, c);
            CHECK.unchanged(held(4096), Model.ARGUMENT, "congruent", 0, 7, c);
        }
        CHECK.unchanged(held(4), "true", "congruent", 0, 64, 0);
        CHECK.unchanged(held(4), "false", "congruent", 0, 64, 1);
        CHECK.unchanged(held(4), "true", "congruent", 0, 64, 4);
        CHECK.unchanged(held(4), "false", "congruent", 0, 64, 4095);
        CHECK.unchanged(held(2), "true", "congruent", 0, 64, 4095);
    }

    /** "UnsupportedOperationException if [a] is not 2 .. 4095." */
    private static void congruentNumberFrom2To4095() {
        CHECK.unchanged(held(0), Model.UNSUPPORTED, "congruent", 0, 1, 0);
        CHECK.unchanged(held(1), Model.UNSUPPORTED, "congruent", 0, 1, 0);
        CHECK.unchanged(held(2), "true", "congruent", 0, 1, 0);
        CHECK.unchanged(held(2), "true", "congruent", 0, 64, 1);
        CHECK.unchanged(held(4093), "true", "congruent", 0, 64, 4095);
        CHECK.unchanged(held(4095), "true", "congruent", 0, 1, 0);
        CHECK.unchanged(held(4095), "true", "congruent", 0, 64, 4095);
        CHECK.unchanged(held(4095), "false", "congruent", 0, 64, 4094);
        CHECK.unchanged(held(4096), Model.UNSUPPORTED, "congruent", 0, 1, 0);
        CHECK.unchanged(held(4096), Model.UNSUPPORTED, "congruent", 0, 64, 4095);
        refusedBeyondTheLowestWord(2, "congruent", 0, 64, 4095);
    }

    /** "UnsupportedOperationException if [a] is greater than 511.": 0 and 1 are answered, and not prime. */
    private static void primeUpTo511() {
        String[] due = {"false", "false", "true", "true", "false", "true", "false"};
        for (int n = 0; n < due.length; n++) {
            CHECK.unchanged(held(n), due[n], "prime", 0);
        }
        CHECK.unchanged(held(509), "true", "prime", 0);
        CHECK.unchanged(held(510), "false", "prime", 0);
        CHECK.unchanged(held(511), "false", "prime", 0);
        CHECK.unchanged(held(512), Model.UNSUPPORTED, "prime", 0);
        CHECK.unchanged(held(521), Model.UNSUPPORTED, "prime", 0);
        refusedBeyondTheLowestWord(2, "prime", 0);
    }

    /** Great numbers whose lowest word alone would be allowed, and ones whose words end with a sign bit. */
    private static void refusedBeyondTheLowestWord(int low, String name, long... arguments) {
        for (int k : new int[] {32, 64, 96, 127}) {
            CHECK.unchanged(held(two(k, low)), Model.UNSUPPORTED, name, arguments);
        }
        for (int k : new int[] {31, 32, 63, 64, 128}) {
            CHECK.unchanged(held(two(k, -1)), Model.UNSUPPORTED, name, arguments);
        }
    }
}
