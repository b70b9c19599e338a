import java.util.ArrayList;
import java.util.LinkedHashMap;
import java.util.List;
import java.util.Map;
import java.util.function.Supplier;

/**
 * What the document says of all calls, under "Terms": one test for each part of a sentence, whose
 * remark quotes it.
 */
public final class CallsTest {
    private static final Check CHECK = new Check();
    private static final int NONE = BreakerOrders.NONE;

    /** A call that some object is to refuse. */
    private interface On {
        long answer(BreakerOrders x);
    }

    public static void main(String[] args) {
        numbersOutOfTheirBounds();
        numbersAtTheirBounds();
        noSuchDevice();
        noSuchOption();
        illegalStateAsTold();
        noOtherIllegalState();
        theFirstNamedIsThrown();
        refusedOnAnEmptyObject();
        refusedOnAPartOfAnObject();
        refusedOnAFullObject();
        refusedByStateOnAFullObject();
        thereIsNone();
        CHECK.end();
    }

    /** Terms: "In all calls illegal argument: a number is out of its bounds" - beyond each bound. */
    private static void numbersOutOfTheirBounds() {
        for (Numbers.Given given : Numbers.besidesDevices(2)) {
            for (int wrong : given.outside()) {
                BreakerOrders x = Make.part();
                CHECK.argument(given.name() + " " + wrong, () -> given.call().answer(x, wrong));
            }
        }
    }

    /** Terms: "In all calls illegal argument: a number is out of its bounds" - and not at a bound. */
    private static void numbersAtTheirBounds() {
        List<Numbers.Given> all = new ArrayList<>(Numbers.besidesDevices(1));
        all.addAll(Numbers.ofDevices(3));
        for (Numbers.Given given : all) {
            for (int right : new int[] {given.least(), given.most()}) {
                BreakerOrders x = Make.chain(3);
                CHECK.answers(given.name() + " " + right, () -> given.call().answer(x, right));
            }
        }
    }

    /** Terms: "there is no such device, option." - the devices, however many there are. */
    private static void noSuchDevice() {
        for (int devices = 0; devices <= 8; devices++) {
            for (Numbers.Given given : Numbers.ofDevices(devices)) {
                for (int wrong : given.outside()) {
                    BreakerOrders x = Make.chain(devices);
                    String what = given.name() + " " + wrong + " of " + devices;
                    CHECK.argument(what, () -> given.call().answer(x, wrong));
                }
            }
        }
    }

    /** Terms: "there is no such device, option." - the options, however many there are. */
    private static void noSuchOption() {
        BreakerOrders x = Make.chain(2);
        for (int options = 1; options <= 4; options++) {
            int last = options - 1;
            for (int wrong : new int[] {-1, options, 4, Integer.MIN_VALUE, Integer.MAX_VALUE}) {
                CHECK.argument("option " + wrong + " of " + options, () -> x.choose(0, wrong));
            }
            CHECK.answers("option " + last + " of " + options, () -> x.choose(0, last));
            CHECK.argument("another device's number of options does not count", () -> x.choose(1, 1));
            if (options < 4) {
                x.option(0, 100, 0);
            }
        }
    }

    /** Terms: "Illegal state: as told." - told for device, point and option. */
    private static void illegalStateAsTold() {
        BreakerOrders x = Make.full();
        CHECK.state("there are 8", () -> x.device(NONE));
        CHECK.state("there are 8", () -> x.device(7));
        for (int i = 0; i < 8; i++) {
            int number = i;
            CHECK.state("it has 6", () -> x.point(number, 5000, 0, 0));
            CHECK.state("it has 4", () -> x.option(number, 100, 0));
        }
        BreakerOrders y = Make.part();
        CHECK.state("its last one is at that place", () -> y.point(0, 40, 0, 0));
        CHECK.state("its last one is behind that place", () -> y.point(0, 39, 0, 0));
        CHECK.state("its last one is behind that place", () -> y.point(0, 1, 0, 0));
    }

    /** Terms: "Illegal state: as told." - and no other call throws it, be the object full or empty. */
    private static void noOtherIllegalState() {
        for (BreakerOrders x : new BreakerOrders[] {Make.full(), Make.chain(8)}) {
            CHECK.answers("choose", () -> x.choose(7, 0));
            CHECK.answers("time", () -> x.time(7, 5000, true));
            CHECK.answers("opensFrom", () -> x.opensFrom(7));
            CHECK.answers("order", () -> x.order(7, 6, 0));
            CHECK.answers("broken", () -> x.broken(6, 7, 10000));
            CHECK.answers("settle", () -> Check.bit(x.settle(0)));
            CHECK.answers("chosen", () -> x.chosen(7));
            CHECK.answers("impedance", () -> x.impedance(7, 10000));
            CHECK.answers("voltage", () -> x.voltage(1000000));
            CHECK.answers("shortAt", () -> x.shortAt(7));
            CHECK.answers("opens", () -> x.opens(7, 7));
        }
        BreakerOrders empty = new BreakerOrders();
        CHECK.answers("settle", () -> Check.bit(empty.settle(10000)));
        CHECK.answers("voltage", () -> empty.voltage(0));
    }

    /** Terms: "Of several exceptions the one named first is thrown" - the illegal argument is. */
    private static void theFirstNamedIsThrown() {
        BreakerOrders full = Make.full();
        CHECK.argument("there are 8, and no such upper one", () -> full.device(8));
        CHECK.argument("there are 8, and no such upper one", () -> full.device(-2));
        CHECK.argument("it has 4, and the scale is too little", () -> full.option(0, 9, 0));
        CHECK.argument("it has 4, and the scale is too great", () -> full.option(0, 1001, 0));
        CHECK.argument("it has 4, and the delay is too little", () -> full.option(0, 100, -1));
        CHECK.argument("it has 4, and the delay is too great", () -> full.option(0, 100, 10001));
        BreakerOrders last = Make.curve(new int[] {5000, 0, 0});
        int[][] falsePoints = {{0, 0, 0}, {5001, 0, 0}, {60, -1, 0}, {60, -1, -1}, {60, 0, -1},
            {60, 2, 1}, {60, 0, 100001}, {60, 100001, 100001}};
        for (int[] p : falsePoints) {
            String what = p[0] + ", " + p[1] + ", " + p[2];
            CHECK.argument("it has 6, and false: " + what, () -> full.point(0, p[0], p[1], p[2]));
            CHECK.argument("its last one is behind, and false: " + what, () -> last.point(0, p[0], p[1], p[2]));
        }
    }

    /** Terms: "a call that throws changes nothing." */
    private static void refusedOnAnEmptyObject() {
        eachChangesNothing(BreakerOrders::new, Check.ARGUMENT, wrongNumbers(0, 1));
    }

    /** Terms: "a call that throws changes nothing." */
    private static void refusedOnAPartOfAnObject() {
        eachChangesNothing(Make::part, Check.ARGUMENT, wrongNumbers(3, 2));
        Map<String, On> calls = new LinkedHashMap<>();
        calls.put("point at the last place", x -> x.point(2, 40, 7, 8));
        calls.put("point ahead of the last place", x -> x.point(2, 39, 7, 8));
        eachChangesNothing(Make::part, Check.STATE, calls);
    }

    /** Terms: "a call that throws changes nothing." */
    private static void refusedOnAFullObject() {
        eachChangesNothing(Make::full, Check.ARGUMENT, wrongNumbers(8, 4));
    }

    /** Terms: "a call that throws changes nothing." */
    private static void refusedByStateOnAFullObject() {
        Map<String, On> calls = new LinkedHashMap<>();
        for (int i = 0; i < 8; i++) {
            int number = i;
            calls.put("a ninth device below " + i, x -> x.device(number));
            calls.put("a seventh point of " + i, x -> x.point(number, 5000, 1, 2));
            calls.put("a seventh point of " + i + " at the last place", x -> x.point(number, 60, 1, 2));
            calls.put("a fifth option of " + i, x -> x.option(number, 50, 9));
        }
        calls.put("a ninth device below the source", x -> x.device(NONE));
        eachChangesNothing(Make::full, Check.STATE, calls);
    }

    /** The constants: "`NONE = -1`: There is none." */
    private static void thereIsNone() {
        BreakerOrders x = Make.chain(2);
        CHECK.due("the constant", -1, () -> BreakerOrders.NONE);
        CHECK.due("no upper one but the source", 2, () -> x.device(-1));
        CHECK.due("no time", -1, () -> x.time(0, 1, false));
        CHECK.due("no current from which on", -1, () -> x.opensFrom(0));
        CHECK.due("no current out of order", -1, () -> x.order(1, 0, 0));
        CHECK.due("none that opens", -1, () -> x.opens(0, 0));
    }

    /** Each number of each call, just out of its bounds and as far out as can be. */
    private static Map<String, On> wrongNumbers(int devices, int options) {
        List<Numbers.Given> all = new ArrayList<>(Numbers.ofDevices(devices));
        all.addAll(Numbers.besidesDevices(options));
        Map<String, On> calls = new LinkedHashMap<>();
        for (Numbers.Given given : all) {
            for (int wrong : given.outside()) {
                calls.put(given.name() + " " + wrong, x -> given.call().answer(x, wrong));
            }
        }
        return calls;
    }

    /** Held against a twin that has never been given the refused call. */
    private static void eachChangesNothing(Supplier<BreakerOrders> maker, String refusal, Map<String, On> calls) {
        String untouched = Picture.of(maker.get());
        calls.forEach((what, call) -> {
            BreakerOrders x = maker.get();
            CHECK.compare(what, refusal, Check.told(() -> call.answer(x)));
            CHECK.compare("what is behind " + what, untouched, Picture.of(x));
        });
        BreakerOrders often = maker.get();
        // So few that the picture's last call is still within the document's 512.
        int left = 80;
        for (On call : calls.values()) {
            if (left-- > 0) {
                Check.told(() -> call.answer(often));
            }
        }
        CHECK.compare("what is behind many refused calls", untouched, Picture.of(often));
    }
}
