import java.util.ArrayList;
import java.util.List;

/** Every number that a call of the face is given, with its bounds on an object of some devices. */
final class Numbers {
    /** A call with one of its numbers left open, the others being right. */
    interface Open {
        long answer(BreakerOrders x, int number);
    }

    record Given(String name, int least, int most, Open call) {
        /** Numbers just below and just above the bounds, and those at which an int wraps around. */
        int[] outside() {
            if (most == Integer.MAX_VALUE) {
                return new int[] {least - 1, Integer.MIN_VALUE};
            }
            return new int[] {least - 1, most + 1, Integer.MIN_VALUE, Integer.MAX_VALUE};
        }
    }

    private Numbers() {
    }

    /** The devices' numbers; there is a device 0 that has points and options to spare. */
    static List<Given> ofDevices(int devices) {
        int last = devices - 1;
        List<Given> all = new ArrayList<>();
        all.add(new Given("device's upper", -1, last, (x, n) -> x.device(n)));
        all.add(new Given("point's device", 0, last, (x, n) -> x.point(n, 5000, 0, 0)));
        all.add(new Given("option's device", 0, last, (x, n) -> x.option(n, 100, 0)));
        all.add(new Given("choose's device", 0, last, (x, n) -> x.choose(n, 0)));
        all.add(new Given("time's device", 0, last, (x, n) -> x.time(n, 1, true)));
        all.add(new Given("opensFrom's device", 0, last, (x, n) -> x.opensFrom(n)));
        all.add(new Given("order's lower", 1, last, (x, n) -> x.order(n, 0, 0)));
        all.add(new Given("order's upper", 1, last, (x, n) -> x.order(0, n, 0)));
        all.add(new Given("broken's lower", 1, last, (x, n) -> x.broken(n, 0, 0)));
        all.add(new Given("broken's upper", 1, last, (x, n) -> x.broken(0, n, 0)));
        all.add(new Given("chosen's device", 0, last, (x, n) -> x.chosen(n)));
        all.add(new Given("impedance's device", 0, last, (x, n) -> x.impedance(n, 1)));
        all.add(new Given("shortAt's device", 0, last, (x, n) -> x.shortAt(n)));
        all.add(new Given("opens' device", 0, last, (x, n) -> x.opens(n, 0)));
        return all;
    }

    /** All other numbers; device 0 has this many options. */
    static List<Given> besidesDevices(int options) {
        List<Given> all = new ArrayList<>();
        all.add(new Given("point's place", 1, 5000, (x, n) -> x.point(0, n, 0, 0)));
        all.add(new Given("point's least", 0, 100000, (x, n) -> x.point(0, 5000, n, 100000)));
        all.add(new Given("point's most", 0, 100000, (x, n) -> x.point(0, 5000, 0, n)));
        all.add(new Given("point's times", 0, 100000, (x, n) -> x.point(0, 5000, n, n)));
        all.add(new Given("option's scale", 10, 1000, (x, n) -> x.option(0, n, 0)));
        all.add(new Given("option's delay", 0, 10000, (x, n) -> x.option(0, 100, n)));
        all.add(new Given("choose's option", 0, options - 1, (x, n) -> x.choose(0, n)));
        all.add(new Given("time's current", 1, 5000, (x, n) -> x.time(0, n, false)));
        all.add(new Given("order's margin", 0, 10000, (x, n) -> x.order(1, 0, n)));
        all.add(new Given("broken's margin", 0, 10000, (x, n) -> x.broken(1, 0, n)));
        all.add(new Given("settle's margin", 0, 10000, (x, n) -> Check.bit(x.settle(n))));
        all.add(new Given("impedance's z", 1, 10000, (x, n) -> x.impedance(0, n)));
        all.add(new Given("voltage's v", 0, 1000000, (x, n) -> x.voltage(n)));
        all.add(new Given("opens' k", 0, Integer.MAX_VALUE, (x, n) -> x.opens(0, n)));
        return all;
    }
}
