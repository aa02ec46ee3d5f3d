import java.math.BigInteger;
import java.util.Arrays;

/** The document once more, by BigInteger and in the slowest and plainest way, to hold the desk against. */
final class Model {
    static final String INDEX = "throws.IndexOutOfBoundsException";
    static final String ARGUMENT = "throws.IllegalArgumentException";
    static final String ARITHMETIC = "throws.ArithmeticException";
    static final String UNSUPPORTED = "throws.UnsupportedOperationException";

    final BigInteger[] registers = new BigInteger[6];

    /** The registers hold the numbers given, those after them 0. */
    Model(BigInteger... held) {
        Arrays.fill(registers, BigInteger.ZERO);
        System.arraycopy(held, 0, registers, 0, held.length);
    }

    String answer(String name, long... v) {
        for (int i = 0; i < registerArguments(name); i++) {
            if (v[i] < 0 || v[i] > 5) {
                return INDEX;
            }
        }
        BigInteger x = at(v[0]);
        switch (name) {
            case "put": return v[1] < 0 ? ARGUMENT : keep(v[0], BigInteger.valueOf(v[1]));
            case "append": return keep(v[0], x.shiftLeft(32).add(BigInteger.valueOf(v[1] & 0xFFFFFFFFL)));
            case "add": return keep(v[2], x.add(at(v[1])));
            case "subtract": return keep(v[2], x.subtract(at(v[1])));
            case "multiply": return keep(v[2], x.multiply(at(v[1])));
            case "divide": return divide(x, at(v[1]), v[2], v[3]);
            case "power": return at(v[2]).signum() == 0 ? ARITHMETIC : keep(v[3], x.modPow(at(v[1]), at(v[2])));
            case "gcd": return keep(v[2], x.gcd(at(v[1])));
            case "compare": return String.valueOf(x.compareTo(at(v[1])));
            case "bits": return String.valueOf(x.bitLength());
            case "word": return v[1] < 0 || v[1] > 3 ? INDEX : wordOf(x, (int) v[1]);
            case "perfect": return String.valueOf(perfect(x));
            case "order": return order(x, v[1]);
            case "modulus": return isIn(x, 2, 511) ? String.valueOf(modulus(x)) : UNSUPPORTED;
            case "congruent": return congruent(x, v[1], v[2]);
            case "prime": return isIn(x, 0, 511) ? String.valueOf(prime(x.intValue())) : UNSUPPORTED;
            default: throw new Error("no call is named " + name);
        }
    }

    static int registerArguments(String name) {
        switch (name) {
            case "divide":
            case "power": return 4;
            case "add":
            case "subtract":
            case "multiply":
            case "gcd": return 3;
            case "compare": return 2;
            default: return 1;
        }
    }

    private BigInteger at(long register) {
        return registers[(int) register];
    }

    private String keep(long to, BigInteger value) {
        if (value.signum() < 0 || value.compareTo(Check.BEYOND) >= 0) {
            return ARITHMETIC;
        }
        registers[(int) to] = value;
        return "done";
    }

    private static boolean isIn(BigInteger x, long least, long greatest) {
        return x.compareTo(BigInteger.valueOf(least)) >= 0 && x.compareTo(BigInteger.valueOf(greatest)) <= 0;
    }

    private String divide(BigInteger x, BigInteger y, long quotient, long remainder) {
        if (quotient == remainder) {
            return ARGUMENT;
        }
        if (y.signum() == 0) {
            return ARITHMETIC;
        }
        keep(quotient, x.divide(y));
        return keep(remainder, x.mod(y));
    }

    private static String wordOf(BigInteger x, int k) {
        return x.shiftRight(32 * k).and(BigInteger.valueOf(0xFFFFFFFFL)).toString();
    }

    /** By bisection for every exponent, the composite ones too. */
    static int perfect(BigInteger x) {
        for (int k = 2; k < 128; k++) {
            BigInteger low = BigInteger.TWO;
            BigInteger high = Check.twoTo(128 / k + 1);
            while (low.compareTo(high) < 0) {
                BigInteger middle = low.add(high).shiftRight(1);
                if (middle.pow(k).compareTo(x) < 0) {
                    low = middle.add(BigInteger.ONE);
                } else {
                    high = middle;
                }
            }
            if (low.pow(k).equals(x)) {
                return k;
            }
        }
        return 0;
    }

    private static String order(BigInteger x, long m) {
        if (m < 2 || m > 1000) {
            return ARGUMENT;
        }
        int order = orderOrZero(x, BigInteger.valueOf(m));
        return order == 0 ? ARITHMETIC : String.valueOf(order);
    }

    static int orderOrZero(BigInteger x, BigInteger m) {
        if (!x.gcd(m).equals(BigInteger.ONE)) {
            return 0;
        }
        int k = 1;
        while (!x.modPow(BigInteger.valueOf(k), m).equals(BigInteger.ONE)) {
            k++;
        }
        return k;
    }

    static int modulus(BigInteger x) {
        int least = x.bitLength() * x.bitLength();
        int m = 2;
        while (orderOrZero(x, BigInteger.valueOf(m)) <= least) {
            m++;
        }
        return m;
    }

    private static String congruent(BigInteger x, long m, long c) {
        if (m < 1 || m > 64 || c < 0 || c > 4095) {
            return ARGUMENT;
        }
        return isIn(x, 2, 4095) ? String.valueOf(congruent(x.intValue(), (int) m, (int) c)) : UNSUPPORTED;
    }

    /** Multiplies n times by x + c. */
    static boolean congruent(int n, int m, int c) {
        long[] power = new long[m];
        power[0] = 1;
        for (int k = 0; k < n; k++) {
            long[] next = new long[m];
            for (int j = 0; j < m; j++) {
                next[(j + 1) % m] += power[j];
                next[j] += c * power[j];
            }
            for (int j = 0; j < m; j++) {
                power[j] = next[j] % n;
            }
        }
        power[n % m]--;
        power[0] -= c;
        for (long coefficient : power) {
            if (coefficient % n != 0) {
                return false;
            }
        }
        return true;
    }

    static boolean prime(int n) {
        int divisors = 0;
        for (int d = 1; d <= n; d++) {
            divisors += n % d == 0 ? 1 : 0;
        }
        return divisors == 2;
    }
}
