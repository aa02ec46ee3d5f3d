import java.math.BigInteger;
import java.util.Random;

/** Promises 4 (add), 5 (subtract), 6 (multiply), 7 (divide), 8 (power) and 9 (gcd). */
public final class ArithmeticTest {
    private static final Check CHECK = new Check();
    private static final BigInteger GREATEST = Check.BEYOND.subtract(BigInteger.ONE);
    private static final String[] THREE = {"add", "subtract", "multiply", "gcd"};

    public static void main(String[] args) {
        knownAnswers();
        endsOfTheRange();
        allPairsOfEdges();
        allChoicesOfRegisters();
        oddWords();
        longestGcd();
        powers();
        CHECK.end();
    }

    private static void knownAnswers() {
        PrimalityDesk desk = Check.desk(84, 36);
        CHECK.call(desk, "done", "add", 0, 1, 2);
        CHECK.call(desk, "done", "subtract", 0, 1, 3);
        CHECK.call(desk, "done", "multiply", 0, 1, 4);
        CHECK.call(desk, "done", "gcd", 0, 1, 5);
        CHECK.registers("84 and 36", desk, Check.numbers(84, 36, 120, 48, 3024, 12));
        CHECK.call(desk, "done", "divide", 0, 1, 2, 3);
        CHECK.call(desk, "done", "power", 3, 3, 1, 4);
        CHECK.registers("84 by 36, 12^12 by 36", desk, Check.numbers(84, 36, 2, 12, 0, 12));
    }

    private static void endsOfTheRange() {
        PrimalityDesk desk = Check.desk(GREATEST, BigInteger.ONE, BigInteger.ZERO, Check.twoTo(64));
        CHECK.call(desk, Model.ARITHMETIC, "add", 0, 1, 4);
        CHECK.call(desk, Model.ARITHMETIC, "add", 1, 0, 4);
        CHECK.call(desk, Model.ARITHMETIC, "subtract", 2, 1, 4);
        CHECK.call(desk, Model.ARITHMETIC, "multiply", 3, 3, 4);
        CHECK.registers("beyond the ends", desk, GREATEST, BigInteger.ONE, BigInteger.ZERO, Check.twoTo(64));
        CHECK.call(desk, "done", "add", 0, 2, 4);
        CHECK.same("greatest + 0", Check.read(desk, 4), GREATEST);
        CHECK.call(desk, "done", "subtract", 0, 0, 4);
        CHECK.same("greatest - greatest", Check.read(desk, 4), BigInteger.ZERO);
        CHECK.call(desk, "done", "subtract", 3, 1, 4);
        CHECK.call(desk, "done", "add", 3, 1, 5);
        CHECK.call(desk, "done", "multiply", 4, 5, 5);
        CHECK.same("(2^64 - 1) * (2^64 + 1)", Check.read(desk, 5), GREATEST);
    }

    private static void allPairsOfEdges() {
        for (BigInteger x : Check.edges()) {
            for (BigInteger y : Check.edges()) {
                for (String name : THREE) {
                    CHECK.likeModel(new BigInteger[] {x, y}, name, 0, 1, 2);
                }
                CHECK.likeModel(new BigInteger[] {x, y}, "divide", 0, 1, 2, 3);
            }
        }
    }

    private static void allChoicesOfRegisters() {
        BigInteger[] values = Check.numbers(100, 7, 45, 13, 3, 1001);
        for (int a = 0; a < 6; a++) {
            for (int b = 0; b < 6; b++) {
                for (int c = 0; c < 6; c++) {
                    for (String name : THREE) {
                        CHECK.likeModel(values, name, a, b, c);
                    }
                    for (int d = 0; d < 6; d++) {
                        CHECK.likeModel(values, "divide", a, b, c, d);
                        CHECK.likeModel(values, "power", a, b, c, d);
                    }
                }
            }
        }
    }

    /** Words of all zeros, all ones and the like are where a digit of a quotient is guessed wrongly. */
    private static void oddWords() {
        Random random = new Random(20261115);
        for (int i = 0; i < 100000; i++) {
            BigInteger[] values = {oddNumber(random), oddNumber(random), oddNumber(random)};
            CHECK.likeModel(values, "divide", 0, 1, 2, 3);
            CHECK.likeModel(values, THREE[i % THREE.length], 0, 1, 2);
            if (i % 50 == 0) {
                CHECK.likeModel(values, "power", 0, 1, 2, 3);
            }
        }
    }

    private static BigInteger oddNumber(Random random) {
        int[] words = {0, 1, 2, -1, -2, Integer.MIN_VALUE, Integer.MIN_VALUE + 1, Integer.MAX_VALUE};
        BigInteger value = BigInteger.ZERO;
        int count = 1 + random.nextInt(4);
        for (int k = 0; k < count; k++) {
            int w = random.nextInt(3) == 0 ? random.nextInt() : words[random.nextInt(words.length)];
            value = value.shiftLeft(32).add(BigInteger.valueOf(w & 0xFFFFFFFFL));
        }
        return value;
    }

    /** Two Fibonacci numbers one after the other take the most steps. */
    private static void longestGcd() {
        BigInteger x = BigInteger.ONE;
        BigInteger y = BigInteger.ONE;
        while (x.add(y).compareTo(Check.BEYOND) < 0) {
            BigInteger next = x.add(y);
            x = y;
            y = next;
        }
        CHECK.likeModel(new BigInteger[] {x, y}, "gcd", 0, 1, 2);
        CHECK.likeModel(new BigInteger[] {x, y}, "gcd", 1, 0, 0);
        BigInteger[] zeros = Check.numbers(0, 0);
        CHECK.likeModel(zeros, "gcd", 0, 1, 2);
        CHECK.likeModel(new BigInteger[] {BigInteger.ZERO, GREATEST}, "gcd", 0, 1, 2);
        CHECK.likeModel(new BigInteger[] {GREATEST, BigInteger.ZERO}, "gcd", 0, 1, 2);
    }

    private static void powers() {
        CHECK.likeModel(Check.numbers(0, 0, 1), "power", 0, 1, 2, 3);
        CHECK.likeModel(Check.numbers(0, 0, 2), "power", 0, 1, 2, 3);
        CHECK.likeModel(Check.numbers(0, 5, 7), "power", 0, 1, 2, 3);
        CHECK.likeModel(Check.numbers(5, 0, 0), "power", 0, 1, 2, 3);
        BigInteger[] edges = Check.edges();
        for (int i = 0; i < edges.length; i++) {
            for (int j = 0; j < edges.length; j++) {
                BigInteger third = edges[(7 * i + 3 * j) % edges.length];
                CHECK.likeModel(new BigInteger[] {edges[i], edges[j], third}, "power", 0, 1, 2, 3);
                CHECK.likeModel(new BigInteger[] {edges[i], third, edges[j]}, "power", 0, 1, 2, 3);
            }
        }
    }
}
