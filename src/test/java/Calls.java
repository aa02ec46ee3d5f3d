/** Makes a call by its name, so that a test can write calls and answers as data. */
final class Calls {
    private Calls() {
    }

    /** What the call answers: a number, true or false, done, or throws. and an exception's name. */
    static String answer(PrimalityDesk desk, String name, long... v) {
        try {
            return answerOrThrow(desk, name, v);
        } catch (RuntimeException e) {
            return "throws." + e.getClass().getSimpleName();
        }
    }

    private static String answerOrThrow(PrimalityDesk desk, String name, long[] v) {
        int a = (int) v[0];
        int b = v.length > 1 ? (int) v[1] : 0;
        int c = v.length > 2 ? (int) v[2] : 0;
        int d = v.length > 3 ? (int) v[3] : 0;
        switch (name) {
            case "compare": return String.valueOf(desk.compare(a, b));
            case "bits": return String.valueOf(desk.bits(a));
            case "word": return String.valueOf(desk.word(a, b));
            case "perfect": return String.valueOf(desk.perfect(a));
            case "order": return String.valueOf(desk.order(a, b));
            case "modulus": return String.valueOf(desk.modulus(a));
            case "congruent": return String.valueOf(desk.congruent(a, b, c));
            case "prime": return String.valueOf(desk.prime(a));
            case "put": desk.put(a, v[1]); return "done";
            case "append": desk.append(a, b); return "done";
            case "add": desk.add(a, b, c); return "done";
            case "subtract": desk.subtract(a, b, c); return "done";
            case "multiply": desk.multiply(a, b, c); return "done";
            case "divide": desk.divide(a, b, c, d); return "done";
            case "power": desk.power(a, b, c, d); return "done";
            case "gcd": desk.gcd(a, b, c); return "done";
            default: throw new Error("no call is named " + name);
        }
    }
}
