import java.lang.reflect.Field;
import java.lang.reflect.Method;
import java.lang.reflect.Modifier;
import java.util.Arrays;
import java.util.Set;
import java.util.TreeSet;

/** The class's face is the document's, with no other member that is not private. */
public final class FaceTest {
    private static final Set<String> METHODS = new TreeSet<>(Set.of(
            "int device(int)", "int point(int, int, int, int)", "int option(int, int, int)", "int choose(int, int)",
            "int time(int, int, boolean)", "int opensFrom(int)", "int order(int, int, int)",
            "int broken(int, int, int)", "boolean settle(int)", "int chosen(int)", "int impedance(int, int)",
            "int voltage(int)", "int shortAt(int)", "int opens(int, int)"));

    public static void main(String[] args) {
        Check check = new Check();
        Class<?> face = BreakerOrders.class;
        check.due("public final", Modifier.PUBLIC | Modifier.FINAL, face::getModifiers);
        check.due("constructors", 1, () -> face.getDeclaredConstructors().length);
        check.due("public constructors", 1, () -> face.getConstructors().length);
        check.compare("methods", METHODS.toString(), openMethods(face).toString());
        check.compare("constants", "[int NONE]", openFields(face).toString());
        check.compare("private methods with a public one's name", "[]", twins(face).toString());
        for (Class<?> inside : face.getDeclaredClasses()) {
            check.due(inside + " is static", 1, () -> Modifier.isStatic(inside.getModifiers()) ? 1 : 0);
            check.compare("methods of " + inside + " with a public one's name", "[]", twins(inside).toString());
        }
        check.end();
    }

    private static Set<String> openMethods(Class<?> type) {
        Set<String> open = new TreeSet<>();
        for (Method m : type.getDeclaredMethods()) {
            if (!Modifier.isPrivate(m.getModifiers())) {
                String[] takes = Arrays.stream(m.getParameterTypes()).map(Class::getName).toArray(String[]::new);
                open.add(m.getReturnType().getName() + " " + m.getName() + "(" + String.join(", ", takes) + ")");
            }
        }
        return open;
    }

    private static Set<String> openFields(Class<?> type) {
        Set<String> open = new TreeSet<>();
        for (Field f : type.getDeclaredFields()) {
            if (!Modifier.isPrivate(f.getModifiers())) {
                open.add(f.getType().getName() + " " + f.getName());
            }
        }
        return open;
    }

    private static Set<String> twins(Class<?> type) {
        Set<String> twins = new TreeSet<>();
        for (Method m : type.getDeclaredMethods()) {
            boolean ofFace = type == BreakerOrders.class && Modifier.isPublic(m.getModifiers());
            boolean named = METHODS.stream().anyMatch(f -> f.contains(" " + m.getName() + "("));
            if (named && !ofFace) {
                twins.add(m.getName());
            }
        }
        return twins;
    }
}
