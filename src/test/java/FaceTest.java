import java.lang.reflect.Constructor;
import java.lang.reflect.Field;
import java.lang.reflect.Method;
import java.lang.reflect.Modifier;
import java.util.Set;
import java.util.TreeSet;

/** The public face is the document's, and nothing beside it can be seen from outside. */
public final class FaceTest {
    private static final Check CHECK = new Check();
    private static final String[] FACE = {
        "void put(int,long) IndexOutOfBoundsException,IllegalArgumentException",
        "void append(int,int) IndexOutOfBoundsException,ArithmeticException",
        "void add(int,int,int) IndexOutOfBoundsException,ArithmeticException",
        "void subtract(int,int,int) IndexOutOfBoundsException,ArithmeticException",
        "void multiply(int,int,int) IndexOutOfBoundsException,ArithmeticException",
        "void divide(int,int,int,int) IndexOutOfBoundsException,IllegalArgumentException,ArithmeticException",
        "void power(int,int,int,int) IndexOutOfBoundsException,ArithmeticException",
        "void gcd(int,int,int) IndexOutOfBoundsException",
        "int compare(int,int) IndexOutOfBoundsException",
        "int bits(int) IndexOutOfBoundsException",
        "long word(int,int) IndexOutOfBoundsException",
        "int perfect(int) IndexOutOfBoundsException",
        "int order(int,int) IndexOutOfBoundsException,IllegalArgumentException,ArithmeticException",
        "int modulus(int) IndexOutOfBoundsException,UnsupportedOperationException",
        "boolean congruent(int,int,int) IndexOutOfBoundsException,IllegalArgumentException,UnsupportedOperationException",
        "boolean prime(int) IndexOutOfBoundsException,UnsupportedOperationException"
    };

    public static void main(String[] args) {
        Class<?> desk = PrimalityDesk.class;
        CHECK.same("the class's modifiers", Modifier.toString(desk.getModifiers()), "public final");
        constructors(desk);
        methods(desk);
        fields(desk);
        for (Class<?> inside : desk.getDeclaredClasses()) {
            CHECK.same(inside.getName() + " is static", Modifier.isStatic(inside.getModifiers()), true);
            CHECK.same(inside.getName() + " is public", Modifier.isPublic(inside.getModifiers()), false);
            fieldsAreFinalIfStatic(inside);
        }
        CHECK.end();
    }

    private static void constructors(Class<?> desk) {
        Constructor<?>[] all = desk.getDeclaredConstructors();
        CHECK.same("constructors", all.length, 1);
        CHECK.same("the constructor", all[0].toString(), "public PrimalityDesk()");
    }

    private static void methods(Class<?> desk) {
        Set<String> seen = new TreeSet<>();
        Set<String> names = new TreeSet<>();
        for (Method method : desk.getDeclaredMethods()) {
            if (!Modifier.isPrivate(method.getModifiers())) {
                seen.add(written(method));
                names.add(method.getName());
            }
        }
        CHECK.same("methods that can be seen", seen, new TreeSet<>(Set.of(FACE)));
        for (Method method : desk.getDeclaredMethods()) {
            boolean hidden = Modifier.isPrivate(method.getModifiers());
            CHECK.same(method + " hides behind a public name", hidden && names.contains(method.getName()), false);
        }
    }

    private static String written(Method method) {
        return method.getReturnType() + " " + method.getName() + "(" + joined(method.getParameterTypes()) + ") "
            + joined(method.getExceptionTypes());
    }

    private static String joined(Class<?>[] types) {
        StringBuilder text = new StringBuilder();
        for (Class<?> type : types) {
            text.append(text.length() == 0 ? "" : ",").append(type.getSimpleName());
        }
        return text.toString();
    }

    private static void fields(Class<?> desk) {
        for (Field field : desk.getDeclaredFields()) {
            CHECK.same(field + " is private", Modifier.isPrivate(field.getModifiers()), true);
        }
        fieldsAreFinalIfStatic(desk);
    }

    private static void fieldsAreFinalIfStatic(Class<?> type) {
        for (Field field : type.getDeclaredFields()) {
            int modifiers = field.getModifiers();
            CHECK.same(field + " may change", Modifier.isStatic(modifiers) && !Modifier.isFinal(modifiers), false);
        }
    }
}
