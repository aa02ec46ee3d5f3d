import java.io.IOException;
import java.lang.reflect.Method;
import java.lang.reflect.Modifier;
import java.math.BigInteger;
import java.nio.file.Files;
import java.nio.file.Path;
import java.util.ArrayList;
import java.util.List;
import java.util.regex.Matcher;
import java.util.regex.Pattern;

/** README.md tells the truth: its examples answer what they say, and its table of calls is the face. */
public final class ReadmeTest {
    private static final Check CHECK = new Check();
    private static final String NEW_DESK = "PrimalityDesk desk = new PrimalityDesk();";
    private static final Pattern CALL = Pattern.compile("desk\\.(\\w+)\\((.*)\\); +// (.+)");
    private static final Pattern HOLDS = Pattern.compile("\\[(\\d)\\] = (\\d+)(, )?");
    private static final Pattern ROW = Pattern.compile("\\| `(\\w+) (\\w+)\\((.*)\\)` \\| [^|]+ \\| ?([^|]*) ?\\|");
    private static final Pattern EXCEPTION = Pattern.compile("`(\\w+Exception)`");

    public static void main(String[] args) throws IOException {
        List<String> lines = Files.readAllLines(Path.of("README.md"));
        examples(lines);
        tableOfCalls(lines);
        CHECK.end();
    }

    private static void examples(List<String> lines) {
        PrimalityDesk desk = null;
        int calls = 0;
        for (String line : lines) {
            Matcher call = CALL.matcher(line);
            if (line.equals(NEW_DESK)) {
                desk = new PrimalityDesk();
            } else if (call.matches()) {
                calls++;
                oneExample(desk, line, call.group(1), numbers(call.group(2)), call.group(3));
            } else {
                CHECK.same(line + " is a call that this test does not read", line.startsWith("desk."), false);
            }
        }
        CHECK.same("there are examples", calls > 0, true);
    }

    private static long[] numbers(String written) {
        String[] parts = written.split(", ");
        long[] numbers = new long[parts.length];
        for (int i = 0; i < parts.length; i++) {
            numbers[i] = Long.parseLong(parts[i]);
        }
        return numbers;
    }

    /** What is told is an answer, an exception, or what registers hold then. */
    private static void oneExample(PrimalityDesk desk, String line, String name, long[] arguments, String told) {
        boolean holds = told.startsWith("[");
        String want = holds ? "done" : told.replace("throws ", "throws.");
        CHECK.same(line, Calls.answer(desk, name, arguments), want);
        if (holds) {
            CHECK.same(line + " is read whole", HOLDS.matcher(told).replaceAll(""), "");
            Matcher register = HOLDS.matcher(told);
            while (register.find()) {
                BigInteger held = Check.read(desk, Integer.parseInt(register.group(1)));
                CHECK.same(line, held, new BigInteger(register.group(2)));
            }
        }
    }

    private static void tableOfCalls(List<String> lines) {
        List<String> rows = new ArrayList<>();
        for (String line : lines) {
            Matcher row = ROW.matcher(line);
            if (row.matches()) {
                int arguments = row.group(3).split(", ").length;
                rows.add(written(row.group(1), row.group(2), arguments, exceptions(row.group(4))));
            }
        }
        List<String> methods = new ArrayList<>();
        for (Method method : PrimalityDesk.class.getDeclaredMethods()) {
            if (Modifier.isPublic(method.getModifiers())) {
                methods.add(written(method.getReturnType().getName(), method.getName(), method.getParameterCount(),
                    exceptions(method)));
            }
        }
        rows.sort(null);
        methods.sort(null);
        CHECK.same("README.md's table of calls", rows, methods);
    }

    private static String written(String type, String name, int arguments, List<String> exceptions) {
        // Every call throws it, and the list below the table says so once.
        exceptions.remove("IndexOutOfBoundsException");
        return type + " " + name + " of " + arguments + " " + exceptions;
    }

    private static List<String> exceptions(String cell) {
        List<String> names = new ArrayList<>();
        Matcher exception = EXCEPTION.matcher(cell);
        while (exception.find()) {
            names.add(exception.group(1));
        }
        return names;
    }

    private static List<String> exceptions(Method method) {
        List<String> names = new ArrayList<>();
        for (Class<?> type : method.getExceptionTypes()) {
            names.add(type.getSimpleName());
        }
        return names;
    }
}
