import java.lang.reflect.Constructor;
import java.lang.reflect.Method;
import java.lang.reflect.Modifier;
import java.util.Arrays;
import java.util.Set;
import java.util.TreeSet;
import java.util.stream.Collectors;

/** The public face and nothing beside it. */
public final class FaceTest {
    private static final String A = " IllegalArgumentException";
    private static final String S = " IllegalStateException";
    private static final String M = " NoSuchElementException";
    private static final String U = " UnsupportedOperationException";

    private static final String[] FACE = {
        "void power(int)" + A,
        "long extend(int, int, long)" + A + S,
        "int primary(int, long)" + A + S,
        "void create(int, int, long, int, long)" + A + S + M + U,
        "int load(int, int)" + A + S + M + U + " ArithmeticException",
        "void tamper(int, int, long)" + A + M,
        "void flush(int)" + A + S + M,
        "long open(int, int)" + A + S + M + U,
        "long unseal(int, int)" + A + S + M + U,
        "void session(int)" + A + S,
        "long pcr(int, int, int)" + A + S,
        "long either(int, long, long)" + A + S + U,
        "long with(int, int, int)" + A + S + M + U,
        "void define(int, boolean, long)" + A + S,
        "void remove(int)" + A + S + M,
        "long write(int, int, long)" + A + S + M + U,
        "long read(int)" + A + S + M,
        "double clock(int, int)" + A + S,
        "void clear()" + S,
        "long told(int, int)" + A + M,
        "int count(int)",
        "double rate()",
    };

    private FaceTest() {
    }

    public static void main(String[] args) {
        Class<?> type = TrustModule.class;
        Check.is("modifiers", Modifier.toString(type.getModifiers()), "public final");
        Check.is("constructors", Arrays.stream(type.getDeclaredConstructors()).map(FaceTest::parameters).toList(),
                java.util.List.of("public (int)"));

        Set<String> methods = new TreeSet<>();
        Set<String> publicNames = new TreeSet<>();
        for (Method method : type.getDeclaredMethods()) {
            if (!Modifier.isPrivate(method.getModifiers())) {
                methods.add(described(method));
                publicNames.add(method.getName());
            }
        }
        Check.is("methods", methods, new TreeSet<>(Arrays.asList(FACE)));
        for (Method method : type.getDeclaredMethods()) {
            if (Modifier.isPrivate(method.getModifiers())) {
                Check.is("private " + method.getName() + " bears a public name",
                        publicNames.contains(method.getName()), false);
            }
        }
        Check.is("fields that are not private", Arrays.stream(type.getDeclaredFields())
                .filter(field -> !Modifier.isPrivate(field.getModifiers())).count(), 0L);
        for (Class<?> inside : type.getDeclaredClasses()) {
            Check.is(inside + " is static", Modifier.isStatic(inside.getModifiers()), true);
        }
        Check.end();
    }

    private static String parameters(Constructor<?> constructor) {
        return Modifier.toString(constructor.getModifiers()) + " (" + names(constructor.getParameterTypes(), ", ")
                + ")";
    }

    private static String described(Method method) {
        String thrown = names(method.getExceptionTypes(), " ");
        return method.getReturnType() + " " + method.getName() + "(" + names(method.getParameterTypes(), ", ") + ")"
                + (thrown.isEmpty() ? "" : " " + thrown);
    }

    private static String names(Class<?>[] types, String between) {
        return Arrays.stream(types).map(Class::getSimpleName).collect(Collectors.joining(between));
    }
}
