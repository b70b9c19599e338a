/**
 * All that calls can tell of an object of at most eight devices, as one text. It takes 282
 * calls, which change the object: it is not to be used behind them.
 */
final class Picture {
    private static final int DEVICES = 8;
    private static final int OPTIONS = 4;

    private final BreakerOrders x;
    private final StringBuilder text = new StringBuilder();

    private Picture(BreakerOrders x) {
        this.x = x;
    }

    static String of(BreakerOrders x) {
        Picture p = new Picture(x);
        for (int d = 0; d < DEVICES; d++) {
            p.asItIs(d);
        }
        for (int d = 0; d < DEVICES; d++) {
            p.curve(d);
        }
        for (int d = 0; d < DEVICES; d++) {
            p.grown(d);
        }
        p.tell("voltage", () -> x.voltage(0));
        p.tell("device", () -> x.device(BreakerOrders.NONE));
        return p.text.toString();
    }

    private void asItIs(int d) {
        tell("chosen", () -> x.chosen(d));
        tell("opensFrom", () -> x.opensFrom(d));
        tell("shortAt", () -> x.shortAt(d));
        for (int k = 0; k < 3; k++) {
            int nth = k;
            tell("opens", () -> x.opens(d, nth));
        }
        tell("order", () -> x.order(d, d - 1, 5));
        tell("broken", () -> x.broken(d, d - 1, 5));
    }

    private void curve(int d) {
        for (int o = OPTIONS - 1; o >= 0; o--) {
            int option = o;
            tell("choose", () -> x.choose(d, option));
            tell("least", () -> x.time(d, 35, false));
            tell("most", () -> x.time(d, 35, true));
        }
        for (int i = 10; i <= 60; i += 10) {
            int current = i;
            tell("least", () -> x.time(d, current, false));
            tell("most", () -> x.time(d, current, true));
        }
    }

    /** How full a device is, told by what comes to it. */
    private void grown(int d) {
        tell("impedance", () -> x.impedance(d, 1));
        tell("option", () -> x.option(d, 1000, 10000));
        tell("point", () -> x.point(d, 5000, 0, 0));
    }

    private void tell(String what, Check.Call call) {
        text.append(what).append(' ').append(Check.told(call)).append('\n');
    }
}
