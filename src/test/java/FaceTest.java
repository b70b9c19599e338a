import java.lang.reflect.Field;
import java.lang.reflect.Method;
import java.lang.reflect.Modifier;
import java.util.Arrays;
import java.util.Set;
import java.util.TreeSet;
import java.util.stream.Collectors;

/** The class's face is the document's, with no other member that is not private. */
public final class FaceTest {
    private static final Set<String> METHODS = new TreeSet<>(Set.of(
            "int device(int) throws argument, state", "int point(int, int, int, int) throws argument, state",
            "int option(int, int, int) throws argument, state", "int choose(int, int) throws argument",
            "int time(int, int, boolean) throws argument", "int opensFrom(int) throws argument",
            "int order(int, int, int) throws argument", "int broken(int, int, int) throws argument",
            "boolean settle(int) throws argument", "int chosen(int) throws argument",
            "int impedance(int, int) throws argument", "int voltage(int) throws argument",
            "int shortAt(int) throws argument", "int opens(int, int) throws argument"));

    public static void main(String[] args) {
        Check check = new Check();
        Class<?> face = BreakerOrders.class;
        check.due("public final", Modifier.PUBLIC | Modifier.FINAL, face::getModifiers);
        check.due("constructors", 1, () -> face.getDeclaredConstructors().length);
        check.due("public constructors", 1, () -> face.getConstructors().length);
        check.compare("methods", METHODS.toString(), openMethods(face).toString());
        check.compare("constants", "[int NONE]", openFields(face).toString());
        check.compare("private methods with a public one's name", "[]", twins(face).toString());
        for (Class<?> inside : face.getDeclaredClasses()) {
            check.due(inside + " is static", 1, () -> Modifier.isStatic(inside.getModifiers()) ? 1 : 0);
            check.compare("methods of " + inside + " with a public one's name", "[]", twins(inside).toString());
        }
        check.end();
    }

    private static Set<String> openMethods(Class<?> type) {
        Set<String> open = new TreeSet<>();
        for (Method m : type.getDeclaredMethods()) {
            if (!Modifier.isPrivate(m.getModifiers())) {
                String call = m.getName() + "(" + names(m.getParameterTypes()) + ")";
                open.add(m.getReturnType().getName() + " " + call + " throws " + names(m.getExceptionTypes()));
            }
        }
        return open;
    }

    private static String names(Class<?>[] types) {
        return Arrays.stream(types).map(Class::getSimpleName).collect(Collectors.joining(", "))
                .replace("IllegalArgumentException", "argument").replace("IllegalStateException", "state");
    }

    private static Set<String> openFields(Class<?> type) {
        Set<String> open = new TreeSet<>();
        for (Field f : type.getDeclaredFields()) {
            if (!Modifier.isPrivate(f.getModifiers())) {
                open.add(f.getType().getName() + " " + f.getName());
            }
        }
        return open;
    }

    private static Set<String> twins(Class<?> type) {
        Set<String> twins = new TreeSet<>();
        for (Method m : type.getDeclaredMethods()) {
            boolean ofFace = type == BreakerOrders.class && Modifier.isPublic(m.getModifiers());
            boolean named = METHODS.stream().anyMatch(f -> f.contains(" " + m.getName() + "("));
            if (named && !ofFace) {
                twins.add(m.getName());
            }
        }
        return twins;
    }
}
