import java.math.BigInteger;

/** Promises 1 (a new object), 2 (put), 3 (append), 10 (compare), 11 (bits) and 12 (word). */
public final class StoringTest {
    private static final Check CHECK = new Check();

    public static void main(String[] args) {
        newObject();
        putReplaces();
        appendShifts();
        appendRefusesMoreThan128Bits();
        compareAllEdges();
        bitsOfPowersOfTwo();
        wordsAreWithoutSign();
        objectsAreApart();
        CHECK.end();
    }

    private static void newObject() {
        PrimalityDesk desk = new PrimalityDesk();
        CHECK.registers("a new object", desk);
        for (int a = 0; a < 6; a++) {
            CHECK.call(desk, "0", "bits", a);
        }
    }

    private static void putReplaces() {
        PrimalityDesk desk = Check.desk(Check.BEYOND.subtract(BigInteger.ONE));
        long[] values = {0, 1, 0xFFFFFFFFL, 0x100000000L, Long.MAX_VALUE, 7};
        for (long v : values) {
            CHECK.call(desk, "done", "put", 0, v);
            CHECK.registers("put " + v, desk, BigInteger.valueOf(v));
        }
        CHECK.call(desk, "done", "put", 5, 9);
        CHECK.registers("put to 5", desk, Check.numbers(7, 0, 0, 0, 0, 9));
    }

    private static void appendShifts() {
        PrimalityDesk desk = new PrimalityDesk();
        int[] words = {1, -1, Integer.MIN_VALUE, 0};
        BigInteger value = BigInteger.ZERO;
        for (int w : words) {
            CHECK.call(desk, "done", "append", 0, w);
            value = value.shiftLeft(32).add(BigInteger.valueOf(w & 0xFFFFFFFFL));
            CHECK.registers("append " + w, desk, value);
        }
    }

    private static void appendRefusesMoreThan128Bits() {
        BigInteger greatest = Check.twoTo(96).subtract(BigInteger.ONE);
        PrimalityDesk desk = Check.desk(greatest, Check.twoTo(96));
        CHECK.call(desk, "done", "append", 0, -1);
        CHECK.call(desk, Model.ARITHMETIC, "append", 1, 0);
        CHECK.registers("append at the end", desk, Check.BEYOND.subtract(BigInteger.ONE), Check.twoTo(96));
        CHECK.call(desk, Model.ARITHMETIC, "append", 0, 0);
        CHECK.registers("append beyond it", desk, Check.BEYOND.subtract(BigInteger.ONE), Check.twoTo(96));
    }

    private static void compareAllEdges() {
        for (BigInteger x : Check.edges()) {
            for (BigInteger y : Check.edges()) {
                PrimalityDesk desk = Check.desk(x, y);
                CHECK.call(desk, String.valueOf(x.compareTo(y)), "compare", 0, 1);
                CHECK.call(desk, "0", "compare", 1, 1);
            }
        }
    }

    private static void bitsOfPowersOfTwo() {
        for (int k = 0; k < 128; k++) {
            PrimalityDesk desk = Check.desk(Check.twoTo(k), Check.twoTo(k).subtract(BigInteger.ONE));
            CHECK.call(desk, String.valueOf(k + 1), "bits", 0);
            CHECK.call(desk, String.valueOf(k), "bits", 1);
        }
    }

    private static void wordsAreWithoutSign() {
        PrimalityDesk desk = new PrimalityDesk();
        desk.append(2, 3);
        desk.append(2, Integer.MIN_VALUE);
        desk.append(2, 0);
        desk.append(2, -2);
        CHECK.call(desk, "4294967294", "word", 2, 0);
        CHECK.call(desk, "0", "word", 2, 1);
        CHECK.call(desk, "2147483648", "word", 2, 2);
        CHECK.call(desk, "3", "word", 2, 3);
    }

    private static void objectsAreApart() {
        PrimalityDesk one = Check.desk(5);
        PrimalityDesk other = Check.desk(6);
        CHECK.registers("one desk", one, Check.numbers(5));
        CHECK.registers("the other desk", other, Check.numbers(6));
    }
}
