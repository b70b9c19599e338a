import java.io.IOException;
import java.lang.reflect.Method;
import java.lang.reflect.Modifier;
import java.nio.charset.StandardCharsets;
import java.nio.file.Files;
import java.nio.file.Path;
import java.util.ArrayList;
import java.util.Comparator;
import java.util.List;
import java.util.Set;
import java.util.TreeSet;
import java.util.regex.MatchResult;
import java.util.regex.Matcher;
import java.util.regex.Pattern;
import java.util.stream.Collectors;
import java.util.stream.Stream;

/** What README.md shows and tells of the class and of its tests is true. */
public final class ReadmeTest {
    private static final Check CHECK = new Check();
    private static final Path PROGRAM = Path.of("src/main/java/BreakerOrders.java");
    private static final Path TESTS = Path.of("src/test/java");

    /** A line that prints, and behind it the answer, with or without a remark after a colon. */
    private static final Pattern TOLD = Pattern.compile("\\s*System\\.out\\.println\\(.*\\);\\s+// (\\w+|-1)(: .+)?");
    private static final Pattern BOUNDS = Pattern.compile("\\| (`.*`) \\| (\\d+) (?:\\.\\. (\\d+)|or more).*\\|");

    private final String text;
    private final String example;

    private ReadmeTest(String text) {
        this.text = text;
        this.example = String.join("", blocks("java"));
    }

    public static void main(String[] args) throws IOException, InterruptedException {
        ReadmeTest readme = new ReadmeTest(Files.readString(Path.of("README.md")));
        readme.hasOneExample();
        readme.exampleTellsAllThatItPrints();
        readme.exampleUsesAllOfTheFace();
        readme.examplePrintsWhatItTells();
        readme.tableHasTheCalls();
        readme.tableHasTheBounds();
        readme.tellsHowMany();
        readme.tellsWhatIsAtFirst();
        readme.tellsWhatIsAnsweredAtEnds();
        readme.tellsWhatIsRefused();
        readme.namesAllTests();
        CHECK.end();
    }

    /** The example is one block, followed by its commands; the other commands run the tests. */
    private void hasOneExample() {
        CHECK.due("blocks of Java", 1, () -> blocks("java").size());
        CHECK.due("blocks of commands", 2, () -> blocks("sh").size());
        CHECK.compare("the class in the example", "Example", found("class (\\w+) \\{", example));
    }

    private void exampleTellsAllThatItPrints() {
        for (String line : example.split("\n")) {
            boolean prints = line.contains("System.out");
            boolean tells = line.contains("//") && !line.strip().startsWith("//");
            if (prints || tells) {
                CHECK.due("prints and tells: " + line, 1, () -> Check.bit(TOLD.matcher(line).matches()));
            }
        }
    }

    private void exampleUsesAllOfTheFace() {
        for (Method m : BreakerOrders.class.getDeclaredMethods()) {
            if (Modifier.isPublic(m.getModifiers())) {
                String call = "x." + m.getName() + "(";
                CHECK.due("the example has " + call, 1, () -> Check.bit(example.contains(call)));
            }
        }
        CHECK.due("the example has NONE", 1, () -> Check.bit(example.contains("BreakerOrders.NONE")));
    }

    /** By README's own commands, in a directory that has the program and the example alone. */
    private void examplePrintsWhatItTells() throws IOException, InterruptedException {
        Path room = Files.createTempDirectory("readme");
        try {
            Files.createDirectories(room.resolve(PROGRAM).getParent());
            Files.copy(PROGRAM, room.resolve(PROGRAM));
            Files.writeString(room.resolve("Example.java"), example);
            CHECK.compare("the example", String.join("\n", told()), printed(room, blocks("sh").get(0)));
        } finally {
            remove(room);
        }
    }

    private void tableHasTheCalls() throws IOException {
        List<String> due = all("public (?:int|boolean) (\\w+\\([^)]*\\))", Files.readString(PROGRAM)).stream()
                .map(call -> call.replaceAll("(int|boolean) ", "")).collect(Collectors.toList());
        CHECK.due("calls", 14, due::size);
        CHECK.compare("the table's calls", due.toString(), all("\\| `(\\w+\\([^`]*\\))` \\|", text).toString());
    }

    private void tableHasTheBounds() {
        Set<String> due = new TreeSet<>();
        for (Numbers.Given given : Numbers.besidesDevices(1)) {
            due.add(given.name().substring(given.name().lastIndexOf(' ') + 1));
        }
        due.removeAll(Set.of("times", "option"));
        Set<String> named = new TreeSet<>();
        Matcher row = BOUNDS.matcher(text);
        while (row.find()) {
            int least = Integer.parseInt(row.group(2));
            int most = row.group(3) == null ? Integer.MAX_VALUE : Integer.parseInt(row.group(3));
            String names = row.group(1).replace("`", "");
            for (String name : names.split(", ")) {
                named.add(name);
                boundsAre(name, least, most);
            }
        }
        CHECK.compare("numbers with bounds", due.toString(), named.toString());
    }

    private static void boundsAre(String name, int least, int most) {
        for (Numbers.Given given : Numbers.besidesDevices(1)) {
            if (given.name().endsWith(" " + name)) {
                CHECK.answers(given.name() + " " + least, () -> given.call().answer(twoDevices(), least));
                CHECK.answers(given.name() + " " + most, () -> given.call().answer(twoDevices(), most));
                CHECK.argument(given.name() + " below " + least, () -> given.call().answer(twoDevices(), least - 1));
                if (most != Integer.MAX_VALUE) {
                    CHECK.argument(given.name() + " above " + most, () -> given.call().answer(twoDevices(), most + 1));
                }
            }
        }
    }

    private void tellsHowMany() {
        List<String> most = all("at most (\\d+) devices, \\d+ points", text);
        most.addAll(all("devices, (\\d+) points on a curve", text));
        most.addAll(all("on a curve and (\\d+) options of a device", text));
        BreakerOrders x = Make.chain(1);
        List<Integer> due = List.of(1 + untilRefused(x, (y, n) -> y.device(0)),
                untilRefused(x, (y, n) -> y.point(0, n, 0, 0)), 1 + untilRefused(x, (y, n) -> y.option(0, 100, 0)));
        CHECK.compare("how many", due.toString(), most.toString());
    }

    /** How often a call is answered, with 1, 2 and so on, before the state forbids it. */
    private static int untilRefused(BreakerOrders x, Numbers.Open call) {
        int n = 1;
        while (n < 100 && !refuses(x, call, n)) {
            n++;
        }
        return n - 1;
    }

    private static boolean refuses(BreakerOrders x, Numbers.Open call, int n) {
        return Check.told(() -> call.answer(x, n)).equals(Check.STATE);
    }

    private void tellsWhatIsAtFirst() {
        BreakerOrders x = twoDevices();
        x.point(0, 70, 3, 3);
        String impedance = found("impedance; at first it is (\\d+)", text);
        CHECK.compare("impedance", Check.told(() -> x.impedance(0, 1)), impedance);
        CHECK.compare("voltage", Check.told(() -> x.voltage(1)), found("voltage; at first it is (\\d+)", text));
        CHECK.compare("option", Check.told(() -> x.chosen(0)), found("option; at first it is option (\\d+)", text));
        CHECK.compare("option 0", "100, delay 0", found("option 0 \\(scale (.*?)\\) is there", text));
        CHECK.due("its scale is 100", 70, () -> x.opensFrom(0));
        CHECK.due("its delay is 0", 3, () -> x.time(0, 70, true));
    }

    private void tellsWhatIsAnsweredAtEnds() {
        BreakerOrders x = new BreakerOrders();
        says("its number; the first is 0");
        CHECK.due("the first device", 0, () -> x.device(BreakerOrders.NONE));
        x.point(0, 5000, 1, 1);
        says("the least current at which it opens; `NONE`: at none up to 5000");
        CHECK.due("at the last current", 5000, () -> x.opensFrom(0));
        says("the short current behind a device, 5000 at most");
        x.voltage(501);
        CHECK.due("1000 * 501 / 100", 5000, () -> x.shortAt(0));
        says("the `k`-th, the lowest being the 0th; `NONE`: no such one");
        CHECK.due("the lowest", 0, () -> x.opens(0, 0));
        CHECK.due("no such one", BreakerOrders.NONE, () -> x.opens(0, 1));
        Make.chooseNew(x, 0, 101, 0);
        CHECK.due("behind the last current", BreakerOrders.NONE, () -> x.opensFrom(0));
        says("An object is made for 512 calls; what it answers after them is not promised.");
    }

    private void tellsWhatIsRefused() {
        BreakerOrders x = Make.full();
        says("A number out of its bounds, an unknown device or option, and `order` or `broken` of a device"
                + " with itself throw `IllegalArgumentException`.");
        CHECK.argument("a number out of its bounds", () -> x.voltage(-1));
        CHECK.argument("an unknown device", () -> x.chosen(8));
        CHECK.argument("an unknown option", () -> x.choose(0, 4));
        CHECK.argument("order with itself", () -> x.order(3, 3, 0));
        CHECK.argument("broken with itself", () -> x.broken(3, 3, 0));
        says("A device, point or option too many, and a point whose place is not behind the last one's,"
                + " throw `IllegalStateException`.");
        CHECK.state("a device too many", () -> x.device(0));
        CHECK.state("a point too many", () -> x.point(0, 5000, 0, 0));
        CHECK.state("an option too many", () -> x.option(0, 100, 0));
        BreakerOrders y = Make.curve(new int[] {70, 3, 3});
        CHECK.state("a point at the last one's place", () -> y.point(0, 70, 3, 3));
        CHECK.state("a point ahead of the last one", () -> y.point(0, 69, 3, 3));
        says("If both are due, it is the former.");
        CHECK.argument("both for a device", () -> x.device(8));
        CHECK.argument("both for a point", () -> x.point(0, 5000, 1, 0));
        CHECK.argument("both for an option", () -> x.option(0, 9, 0));
    }

    private void namesAllTests() throws IOException {
        CHECK.compare("the command for the tests", ".ci/run\n", blocks("sh").get(1));
        CHECK.due("it can be run", 1, () -> Check.bit(Files.isExecutable(Path.of(".ci/run"))));
        Set<String> files = new TreeSet<>();
        try (Stream<Path> paths = Files.list(TESTS)) {
            paths.forEach(path -> files.add(path.getFileName().toString().replace(".java", "")));
        }
        Set<String> named = new TreeSet<>(all("`([A-Z]\\w+)`", text.substring(text.indexOf("## Tests"))));
        CHECK.compare("tests and what they use", files.toString(), named.toString());
    }

    /** So that a sentence that is changed there is looked at here, too. */
    private void says(String sentence) {
        CHECK.due("says: " + sentence, 1, () -> Check.bit(text.replaceAll("\\s+", " ").contains(sentence)));
    }

    private static BreakerOrders twoDevices() {
        return Make.chain(2);
    }

    /** The answers behind the example's lines, in their order. */
    private List<String> told() {
        List<String> answers = new ArrayList<>();
        for (String line : example.split("\n")) {
            Matcher m = TOLD.matcher(line);
            if (m.matches()) {
                answers.add(m.group(1));
            }
        }
        return answers;
    }

    private static String printed(Path room, String commands) throws IOException, InterruptedException {
        Process shell = new ProcessBuilder("sh", "-e", "-c", commands)
                .directory(room.toFile()).redirectError(ProcessBuilder.Redirect.INHERIT).start();
        String out = new String(shell.getInputStream().readAllBytes(), StandardCharsets.UTF_8).strip();
        int code = shell.waitFor();
        return code == 0 ? out : out + "\nexit code " + code;
    }

    private static void remove(Path room) throws IOException {
        List<Path> inside;
        try (Stream<Path> paths = Files.walk(room)) {
            inside = paths.sorted(Comparator.reverseOrder()).collect(Collectors.toList());
        }
        for (Path path : inside) {
            Files.delete(path);
        }
    }

    /** The fenced blocks of a language, each as it stands there. */
    private List<String> blocks(String language) {
        return all("(?s)\n```" + language + "\n(.*?)```\n", text);
    }

    private static String found(String pattern, String where) {
        return String.join(" and ", all(pattern, where));
    }

    /** A pattern's first group wherever it matches. */
    private static List<String> all(String pattern, String where) {
        return Pattern.compile(pattern).matcher(where).results()
                .map((MatchResult m) -> m.group(1)).collect(Collectors.toCollection(ArrayList::new));
    }
}
