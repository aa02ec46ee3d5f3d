import java.util.Random;

/** Runs of 512 calls of all kinds on one object, fair and wrong ones, held against the model. */
public final class RandomRunsTest {
    private static final Check CHECK = new Check();
    private static final String[] NAMES = {
        "put", "append", "append", "append", "add", "subtract", "multiply", "divide", "power", "gcd",
        "compare", "bits", "word", "perfect", "order", "modulus", "congruent", "prime"
    };
    private static final long[] VALUES = {0, 1, 2, 3, 4, 510, 511, 512, 4094, 4095, 4096, 0xFFFFFFFFL, Long.MAX_VALUE};

    public static void main(String[] args) {
        Random random = new Random(512);
        for (int run = 0; run < 300; run++) {
            oneRun(random);
        }
        CHECK.end();
    }

    /** The desk is read but once, at the end, so that it has no more than 512 calls before. */
    private static void oneRun(Random random) {
        PrimalityDesk desk = new PrimalityDesk();
        Model model = new Model();
        for (int call = 0; call < 512 - 24; call++) {
            String name = NAMES[random.nextInt(NAMES.length)];
            long[] arguments = arguments(random, name);
            CHECK.call(desk, model.answer(name, arguments), name, arguments);
        }
        CHECK.registers("after a run", desk, model.registers);
    }

    private static long[] arguments(Random random, String name) {
        int registers = Model.registerArguments(name);
        long[] arguments = new long[Math.max(registers, 3)];
        for (int i = 0; i < registers; i++) {
            arguments[i] = random.nextInt(60) == 0 ? (random.nextBoolean() ? -1 : 6) : random.nextInt(6);
        }
        switch (name) {
            case "put": arguments[1] = value(random); break;
            case "append": arguments[1] = random.nextInt(3) == 0 ? random.nextInt(4) - 2 : random.nextInt(); break;
            case "word": arguments[1] = random.nextInt(6) - 1; break;
            case "order": arguments[1] = random.nextInt(20) == 0 ? 1000 + random.nextInt(3) : random.nextInt(100); break;
            case "congruent":
                arguments[1] = random.nextInt(67);
                arguments[2] = random.nextInt(20) == 0 ? 4090 + random.nextInt(10) : random.nextInt(50) - 1;
                break;
            default: break;
        }
        return arguments;
    }

    private static long value(Random random) {
        switch (random.nextInt(4)) {
            case 0: return VALUES[random.nextInt(VALUES.length)];
            case 1: return random.nextLong();
            case 2: return random.nextInt(4200) - 1;
            default: return random.nextInt(520);
        }
    }
}
