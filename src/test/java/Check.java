import java.math.BigInteger;
import java.util.Arrays;

/** Counts the answers that are not as due, and tells them. */
final class Check {
    static final BigInteger BEYOND = BigInteger.ONE.shiftLeft(128);

    private int asked;
    private int wrong;

    /** The call is made on a desk, and its answer is compared with the one that is due. */
    void call(PrimalityDesk desk, String want, String name, long... arguments) {
        same(name + Arrays.toString(arguments), Calls.answer(desk, name, arguments), want);
    }

    void same(String what, Object got, Object want) {
        asked++;
        if (!want.equals(got)) {
            wrong++;
            if (wrong <= 20) {
                System.out.println(what + " answered " + got + ", due is " + want);
            }
        }
    }

    /** All six registers, written as the registers 0, 1, .. with zeros for those not given. */
    void registers(String what, PrimalityDesk desk, BigInteger... want) {
        for (int i = 0; i < 6; i++) {
            same(what + ": register " + i, read(desk, i), i < want.length ? want[i] : BigInteger.ZERO);
        }
    }

    /** On a desk with these numbers the call answers what is due, and all registers are as before. */
    void unchanged(BigInteger[] held, String want, String name, long... arguments) {
        oneCall(held, want, new Model(held).registers, name, arguments);
    }

    /** On a desk with these numbers the call is done, and only this one register changes. */
    void becomes(BigInteger[] held, int register, BigInteger value, String name, long... arguments) {
        BigInteger[] after = new Model(held).registers;
        after[register] = value;
        oneCall(held, "done", after, name, arguments);
    }

    /** On a desk with these numbers the call answers and changes what it does on the model. */
    void likeModel(BigInteger[] held, String name, long... arguments) {
        Model model = new Model(held);
        String want = model.answer(name, arguments);
        oneCall(held, want, model.registers, name, arguments);
    }

    private void oneCall(BigInteger[] held, String want, BigInteger[] after, String name, long... arguments) {
        PrimalityDesk desk = desk(held);
        call(desk, want, name, arguments);
        registers("after " + name + Arrays.toString(arguments) + " on " + Arrays.toString(held), desk, after);
    }

    void end() {
        System.out.println(asked + " answers, " + wrong + " not as due");
        if (wrong != 0 || asked == 0) {
            System.exit(1);
        }
    }

    static PrimalityDesk desk(BigInteger... values) {
        PrimalityDesk desk = new PrimalityDesk();
        for (int i = 0; i < values.length; i++) {
            load(desk, i, values[i]);
        }
        return desk;
    }

    static PrimalityDesk desk(long... values) {
        return desk(numbers(values));
    }

    static BigInteger[] numbers(long... values) {
        BigInteger[] numbers = new BigInteger[values.length];
        for (int i = 0; i < values.length; i++) {
            numbers[i] = BigInteger.valueOf(values[i]);
        }
        return numbers;
    }

    static void load(PrimalityDesk desk, int to, BigInteger value) {
        desk.put(to, 0);
        for (int k = 3; k >= 0; k--) {
            desk.append(to, value.shiftRight(32 * k).intValue());
        }
    }

    static BigInteger read(PrimalityDesk desk, int a) {
        BigInteger value = BigInteger.ZERO;
        for (int k = 3; k >= 0; k--) {
            value = value.shiftLeft(32).add(BigInteger.valueOf(desk.word(a, k)));
        }
        return value;
    }

    static BigInteger twoTo(int k) {
        return BigInteger.ONE.shiftLeft(k);
    }

    /** Numbers round the ends of words and of the range. */
    static BigInteger[] edges() {
        int[] exponents = {1, 2, 31, 32, 33, 63, 64, 65, 95, 96, 97, 127, 128};
        BigInteger[] edges = new BigInteger[3 * exponents.length];
        int count = 0;
        for (int k : exponents) {
            for (int off = -1; off <= 1; off++) {
                BigInteger n = twoTo(k).add(BigInteger.valueOf(off));
                edges[count++] = n.compareTo(BEYOND) < 0 ? n : n.subtract(BEYOND);
            }
        }
        return edges;
    }
}
