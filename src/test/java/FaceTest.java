import java.io.IOException;
import java.lang.reflect.Field;
import java.lang.reflect.Method;
import java.lang.reflect.Modifier;
import java.nio.file.Files;
import java.nio.file.Path;
import java.util.Arrays;
import java.util.List;
import java.util.Set;
import java.util.TreeSet;
import java.util.regex.MatchResult;
import java.util.regex.Pattern;
import java.util.stream.Collectors;

/** The class's face is the document's, with no other member that is not private. */
public final class FaceTest {
    private static final Set<String> METHODS = new TreeSet<>(Set.of(
            "public int device(int) throws argument, state",
            "public int point(int, int, int, int) throws argument, state",
            "public int option(int, int, int) throws argument, state",
            "public int choose(int, int) throws argument", "public int time(int, int, boolean) throws argument",
            "public int opensFrom(int) throws argument", "public int order(int, int, int) throws argument",
            "public int broken(int, int, int) throws argument", "public boolean settle(int) throws argument",
            "public int chosen(int) throws argument", "public int impedance(int, int) throws argument",
            "public int voltage(int) throws argument", "public int shortAt(int) throws argument",
            "public int opens(int, int) throws argument"));

    private static final Check CHECK = new Check();

    public static void main(String[] args) throws IOException {
        classHasTheFace();
        classesInsideAreStatic();
        fileHasTheDocumentsLines();
        fileSaysWhatIsAheadOfTheCalls();
        CHECK.end();
    }

    private static void classHasTheFace() {
        Class<?> face = BreakerOrders.class;
        CHECK.due("public final", Modifier.PUBLIC | Modifier.FINAL, face::getModifiers);
        CHECK.due("constructors", 1, () -> face.getDeclaredConstructors().length);
        CHECK.due("public constructors", 1, () -> face.getConstructors().length);
        CHECK.due("what the constructor is given", 0, () -> face.getConstructors()[0].getParameterCount());
        CHECK.compare("methods", METHODS.toString(), openMethods(face).toString());
        CHECK.compare("constants", "[public static final int NONE]", openFields(face).toString());
        CHECK.compare("private methods with a public one's name", "[]", twins(face).toString());
        CHECK.due("NONE", -1, () -> BreakerOrders.NONE);
    }

    private static void classesInsideAreStatic() {
        for (Class<?> inside : BreakerOrders.class.getDeclaredClasses()) {
            CHECK.due(inside + " is static", 1, () -> Check.bit(Modifier.isStatic(inside.getModifiers())));
            CHECK.compare("methods of " + inside + " with a public one's name", "[]", twins(inside).toString());
        }
    }

    /** "The public face": its lines, with the names of what a call is given, in their order. */
    private static void fileHasTheDocumentsLines() throws IOException {
        String document = Files.readString(Path.of("../shared/DOC.md"));
        String face = document.substring(document.indexOf("```java"), document.indexOf("## Terms"));
        List<String> due = openLines(face);
        CHECK.due("the class, NONE, the constructor and the calls", 17, due::size);
        CHECK.compare("lines of the face", due.toString(), openLines(source()).toString());
    }

    /** Terms: "Ahead of the calls .. the interface says: ---- orders.", and likewise ---- shorts. */
    private static void fileSaysWhatIsAheadOfTheCalls() throws IOException {
        String[] rows = {"public int opensFrom(", "// ---- orders", "public int order(", "public int broken(",
            "public boolean settle(", "public int chosen(", "// ---- shorts", "public int impedance(",
            "public int voltage(", "public int shortAt(", "public int opens("};
        String source = source();
        int behind = 0;
        for (String row : rows) {
            int at = source.indexOf(row, behind);
            CHECK.due(row + " stands behind the row before it", 1, () -> Check.bit(at >= 0));
            behind = at + 1;
        }
    }

    private static String source() throws IOException {
        return Files.readString(Path.of("src/main/java/BreakerOrders.java"));
    }

    /** All that a text declares as public, each up to where its body or value ends it, in one line. */
    private static List<String> openLines(String text) {
        return Pattern.compile("(?m)^ *(public [^;{]*)[;{]").matcher(text).results()
                .map((MatchResult m) -> m.group(1).strip().replaceAll("\\s+", " ")).collect(Collectors.toList());
    }

    private static Set<String> openMethods(Class<?> type) {
        Set<String> open = new TreeSet<>();
        for (Method m : type.getDeclaredMethods()) {
            if (!Modifier.isPrivate(m.getModifiers())) {
                String call = m.getName() + "(" + names(m.getParameterTypes()) + ")";
                open.add(Modifier.toString(m.getModifiers()) + " " + m.getReturnType().getName() + " " + call
                        + " throws " + names(m.getExceptionTypes()));
            }
        }
        return open;
    }

    private static String names(Class<?>[] types) {
        return Arrays.stream(types).map(Class::getSimpleName).collect(Collectors.joining(", "))
                .replace("IllegalArgumentException", "argument").replace("IllegalStateException", "state");
    }

    private static Set<String> openFields(Class<?> type) {
        Set<String> open = new TreeSet<>();
        for (Field f : type.getDeclaredFields()) {
            if (!Modifier.isPrivate(f.getModifiers())) {
                open.add(Modifier.toString(f.getModifiers()) + " " + f.getType().getName() + " " + f.getName());
            }
        }
        return open;
    }

    private static Set<String> twins(Class<?> type) {
        Set<String> twins = new TreeSet<>();
        for (Method m : type.getDeclaredMethods()) {
            boolean ofFace = type == BreakerOrders.class && Modifier.isPublic(m.getModifiers());
            boolean named = METHODS.stream().anyMatch(f -> f.contains(" " + m.getName() + "("));
            if (named && !ofFace) {
                twins.add(m.getName());
            }
        }
        return twins;
    }
}
