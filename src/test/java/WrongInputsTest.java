import java.math.BigInteger;

/** What every call throws, in which order it looks, and that a call that throws changes nothing. */
public final class WrongInputsTest {
    private static final Check CHECK = new Check();
    private static final BigInteger[] VALUES = {
        BigInteger.ZERO, BigInteger.ONE, BigInteger.TWO, BigInteger.valueOf(4096),
        Check.twoTo(96), Check.BEYOND.subtract(BigInteger.ONE)
    };
    private static final long[] NO_REGISTERS = {-1, 6, 7, Integer.MAX_VALUE, Integer.MIN_VALUE};

    public static void main(String[] args) {
        everyRegisterArgument();
        indexBeforeOthers();
        argumentsOutOfRange();
        argumentBeforeArithmeticAndUnsupported();
        numbersOutOfRange();
        everyMixOfArguments();
        CHECK.end();
    }

    private static void refused(String want, String name, long... arguments) {
        CHECK.unchanged(VALUES, want, name, arguments);
    }

    private static void everyRegisterArgument() {
        long[][] fair = {{2, 5}, {2, 5}, {1, 2, 3}, {2, 1, 3}, {1, 2, 3}, {2, 1, 3, 4}, {2, 1, 3, 4}, {1, 2, 3},
            {1, 2}, {1}, {1, 3}, {1}, {2, 5}, {2}, {2, 5, 1}, {2}};
        String[] names = {"put", "append", "add", "subtract", "multiply", "divide", "power", "gcd",
            "compare", "bits", "word", "perfect", "order", "modulus", "congruent", "prime"};
        for (int i = 0; i < names.length; i++) {
            for (int at = 0; at < Model.registerArguments(names[i]); at++) {
                for (long wrong : NO_REGISTERS) {
                    long[] arguments = fair[i].clone();
                    arguments[at] = wrong;
                    refused(Model.INDEX, names[i], arguments);
                }
            }
        }
        for (long k : new long[] {-1, 4, Integer.MAX_VALUE, Integer.MIN_VALUE}) {
            refused(Model.INDEX, "word", 5, k);
        }
    }

    private static void indexBeforeOthers() {
        refused(Model.INDEX, "put", 6, -1);
        refused(Model.INDEX, "add", 5, 5, 6);
        refused(Model.INDEX, "subtract", 0, 5, -1);
        refused(Model.INDEX, "multiply", 5, 5, 6);
        refused(Model.INDEX, "divide", 5, 0, 6, 6);
        refused(Model.INDEX, "divide", 6, 0, 1, 1);
        refused(Model.INDEX, "power", 5, 5, 0, 6);
        refused(Model.INDEX, "order", 6, 1);
        refused(Model.INDEX, "congruent", 6, 65, -1);
    }

    private static void argumentsOutOfRange() {
        for (long v : new long[] {-1, -4294967296L, Long.MIN_VALUE}) {
            refused(Model.ARGUMENT, "put", 0, v);
        }
        refused(Model.ARGUMENT, "divide", 5, 1, 3, 3);
        for (long m : new long[] {1, 0, -1, 1001, Integer.MAX_VALUE, Integer.MIN_VALUE}) {
            refused(Model.ARGUMENT, "order", 1, m);
        }
        for (long m : new long[] {0, -1, 65, Integer.MAX_VALUE, Integer.MIN_VALUE}) {
            refused(Model.ARGUMENT, "congruent", 2, m, 1);
        }
        for (long c : new long[] {-1, 4096, Integer.MAX_VALUE, Integer.MIN_VALUE}) {
            refused(Model.ARGUMENT, "congruent", 2, 3, c);
        }
    }

    private static void argumentBeforeArithmeticAndUnsupported() {
        refused(Model.ARGUMENT, "divide", 5, 0, 3, 3);
        refused(Model.ARGUMENT, "order", 0, 1001);
        refused(Model.ARGUMENT, "congruent", 5, 0, 0);
        refused(Model.ARGUMENT, "congruent", 0, 1, 4096);
    }

    private static void numbersOutOfRange() {
        refused(Model.ARITHMETIC, "append", 4, 0);
        refused(Model.ARITHMETIC, "add", 5, 1, 5);
        refused(Model.ARITHMETIC, "subtract", 4, 5, 4);
        refused(Model.ARITHMETIC, "multiply", 5, 2, 2);
        refused(Model.ARITHMETIC, "multiply", 4, 4, 4);
        refused(Model.ARITHMETIC, "divide", 5, 0, 5, 0);
        refused(Model.ARITHMETIC, "power", 5, 5, 0, 5);
        refused(Model.ARITHMETIC, "order", 0, 2);
        refused(Model.ARITHMETIC, "order", 2, 1000);
        for (int a : new int[] {0, 1, 3, 4, 5}) {
            refused(Model.UNSUPPORTED, "modulus", a);
            refused(Model.UNSUPPORTED, "congruent", a, 1, 0);
        }
        for (int a : new int[] {3, 4, 5}) {
            refused(Model.UNSUPPORTED, "prime", a);
        }
    }

    /** Each argument at its ends and just beyond them, in every mix: the model tells which exception comes first. */
    private static void everyMixOfArguments() {
        long[] registers = {-1, 0, 1, 2, 3, 4, 5, 6};
        mix("put", registers, new long[] {Long.MIN_VALUE, -1, 0, 1, Long.MAX_VALUE});
        mix("append", registers, new long[] {Integer.MIN_VALUE, -1, 0, 1, Integer.MAX_VALUE});
        for (String name : new String[] {"add", "subtract", "multiply", "gcd"}) {
            mix(name, registers, registers, registers);
        }
        mix("divide", registers, registers, registers, registers);
        mix("power", registers, registers, registers, registers);
        mix("compare", registers, registers);
        for (String name : new String[] {"bits", "perfect", "modulus", "prime"}) {
            mix(name, registers);
        }
        mix("word", registers, new long[] {Integer.MIN_VALUE, -1, 0, 1, 2, 3, 4, Integer.MAX_VALUE});
        mix("order", registers, new long[] {Integer.MIN_VALUE, -1, 0, 1, 2, 3, 999, 1000, 1001, Integer.MAX_VALUE});
        mix("congruent", registers, new long[] {Integer.MIN_VALUE, -1, 0, 1, 2, 63, 64, 65, Integer.MAX_VALUE},
            new long[] {Integer.MIN_VALUE, -1, 0, 1, 4094, 4095, 4096, Integer.MAX_VALUE});
    }

    private static void mix(String name, long[]... choices) {
        int mixes = 1;
        for (long[] choice : choices) {
            mixes *= choice.length;
        }
        for (int number = 0; number < mixes; number++) {
            long[] arguments = new long[choices.length];
            int left = number;
            for (int i = 0; i < choices.length; i++) {
                arguments[i] = choices[i][left % choices[i].length];
                left /= choices[i].length;
            }
            CHECK.likeModel(VALUES, name, arguments);
        }
    }
}
