import java.math.BigInteger;
import java.util.Arrays;

/** What the document's 'What it is' and 'Terms' say of all calls; what is refused is in WrongInputsTest. */
public final class TermsTest {
    private static final Check CHECK = new Check();
    private static final BigInteger GREATEST = Check.BEYOND.subtract(BigInteger.ONE);
    private static final String[] ONE_REGISTER = {"bits", "perfect", "modulus", "prime"};

    public static void main(String[] args) {
        everyRegisterHoldsTheWholeRange();
        everyCallTakesEveryRegister();
        sameRegistersWithGreatNumbers();
        aThrowLeavesLaterCallsAlone();
        callsUpToThe512th();
        CHECK.end();
    }

    /** "The REGISTERS 0 .. 5 hold natural numbers 0 .. 2^128 - 1, at first 0." */
    private static void everyRegisterHoldsTheWholeRange() {
        for (int register = 0; register < 6; register++) {
            PrimalityDesk desk = new PrimalityDesk();
            BigInteger[] want = Check.numbers(0, 0, 0, 0, 0, 0);
            CHECK.registers("at first", desk, want);
            Check.load(desk, register, GREATEST);
            want[register] = GREATEST;
            CHECK.registers("the greatest in " + register, desk, want);
            CHECK.call(desk, "done", "put", register, 0);
            CHECK.registers("the least in " + register, desk);
        }
        BigInteger[] full = new BigInteger[6];
        Arrays.fill(full, GREATEST);
        CHECK.registers("the greatest in all", Check.desk(full), full);
    }

    /** Each register has a number of its own, so that a call that took another one would be seen. */
    private static void everyCallTakesEveryRegister() {
        BigInteger[] values = Check.numbers(2, 9, 127, 343, 503, 511);
        for (int a = 0; a < 6; a++) {
            CHECK.likeModel(values, "put", a, 77 + a);
            CHECK.likeModel(values, "append", a, 88 + a);
            for (String name : ONE_REGISTER) {
                CHECK.likeModel(values, name, a);
            }
            for (int b = 0; b < 6; b++) {
                CHECK.likeModel(values, "compare", a, b);
            }
            for (int k = 0; k < 4; k++) {
                CHECK.likeModel(values, "word", a, k);
            }
            CHECK.likeModel(values, "order", a, 1000);
            CHECK.likeModel(values, "order", a, 25);
            CHECK.likeModel(values, "congruent", a, 6, 1);
        }
    }

    /** "What is worked out is worked out from what they held before the call." */
    private static void sameRegistersWithGreatNumbers() {
        BigInteger[] values = {
            new BigInteger("fedcba9876543210", 16), Check.twoTo(64).subtract(BigInteger.ONE), Check.twoTo(33).add(BigInteger.TWO),
            new BigInteger("123456789abcdef0123456789abcdef", 16), Check.twoTo(127), GREATEST
        };
        for (int a = 0; a < 6; a++) {
            for (int b = 0; b < 6; b++) {
                for (int c = 0; c < 6; c++) {
                    CHECK.likeModel(values, "add", a, b, c);
                    CHECK.likeModel(values, "subtract", a, b, c);
                    CHECK.likeModel(values, "multiply", a, b, c);
                    CHECK.likeModel(values, "gcd", a, b, c);
                    for (int d = 0; d < 6; d++) {
                        CHECK.likeModel(values, "divide", a, b, c, d);
                        CHECK.likeModel(values, "power", a, b, c, d);
                    }
                }
            }
        }
    }

    /** "A call that throws changes nothing", not even what only a later call could show. */
    private static void aThrowLeavesLaterCallsAlone() {
        BigInteger[] values = {GREATEST, BigInteger.ZERO, BigInteger.valueOf(10), BigInteger.valueOf(7)};
        String[] refused = {"add", "multiply", "divide", "power", "subtract"};
        long[][] wrong = {{0, 0, 0}, {0, 0, 0}, {0, 1, 4, 5}, {0, 0, 1, 4}, {1, 0, 0}};
        for (int i = 0; i < refused.length; i++) {
            PrimalityDesk desk = Check.desk(values);
            CHECK.call(desk, Model.ARITHMETIC, refused[i], wrong[i]);
            CHECK.call(desk, "done", "divide", 2, 3, 4, 5);
            CHECK.registers("10 / 7 after " + refused[i], desk, GREATEST, BigInteger.ZERO, BigInteger.valueOf(10),
                BigInteger.valueOf(7), BigInteger.ONE, BigInteger.valueOf(3));
            CHECK.call(desk, Model.ARITHMETIC, refused[i], wrong[i]);
            CHECK.call(desk, "done", "power", 2, 3, 0, 4);
            CHECK.same("10^7 after " + refused[i], Check.read(desk, 4), BigInteger.valueOf(10_000_000));
        }
    }

    /** "An object is used for at most 512 calls": the 512th answers as the first, whatever was called before it. */
    private static void callsUpToThe512th() {
        BigInteger[] values = {GREATEST, GREATEST.shiftRight(1), Check.twoTo(127).subtract(BigInteger.TEN)};
        repeat(values, "add", 1, 2, 3);
        repeat(values, "subtract", 0, 2, 3);
        repeat(values, "multiply", 0, 3, 4);
        repeat(values, "divide", 0, 1, 3, 4);
        repeat(values, "power", 2, 0, 1, 3);
        repeat(values, "gcd", 0, 1, 3);
        repeat(values, "compare", 0, 1);
        repeat(values, "bits", 0);
        repeat(values, "word", 0, 3);
        repeat(values, "perfect", 0);
        repeat(values, "order", 0, 997);
        repeat(values, "add", 0, 0, 0); // refused
        repeat(values, "order", 6, 1001); // refused
        repeat(Check.numbers(256), "modulus", 0);
        repeat(Check.numbers(4095), "congruent", 0, 64, 4094);
        repeat(Check.numbers(509), "prime", 0);
        repeat(Check.numbers(1), "put", 0, Long.MAX_VALUE);
        repeat(Check.numbers(1), "append", 0, -1);
    }

    /** One desk makes the call until its 512th; another is read at last, which takes 24 of the 512. */
    private static void repeat(BigInteger[] values, String name, long... arguments) {
        repeated(new Model(values), 512, name, arguments);
        Model model = new Model(values);
        PrimalityDesk desk = repeated(model, 512 - 24, name, arguments);
        CHECK.registers("after many calls of " + name, desk, model.registers);
    }

    private static PrimalityDesk repeated(Model model, int last, String name, long... arguments) {
        PrimalityDesk desk = Check.desk(model.registers);
        int loading = 5 * model.registers.length;
        for (int call = loading + 1; call <= last; call++) {
            CHECK.call(desk, model.answer(name, arguments), name, arguments);
        }
        return desk;
    }
}
