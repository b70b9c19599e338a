/**
 * The document: "An object is used for at most 512 calls after it has been made; what later calls
 * answer is free." Each test is a run of just 512 calls on one object, each of whose answers is
 * due. (PlainTest has runs of that length with all calls mixed.)
 */
public final class LongRunTest {
    private static final Check CHECK = new Check();
    private static final int NONE = BreakerOrders.NONE;
    private static final int CALLS = 512;

    private final BreakerOrders x = new BreakerOrders();
    private int calls = 0;

    public static void main(String[] args) {
        new LongRunTest().devices();
        new LongRunTest().points();
        new LongRunTest().options();
        new LongRunTest().chooses();
        new LongRunTest().times();
        new LongRunTest().orders();
        new LongRunTest().settles();
        new LongRunTest().shorts();
        new LongRunTest().faults();
        new LongRunTest().refusals();
        new LongRunTest().fullAtTheEnd();
        CHECK.end();
    }

    private void due(String what, long want, Check.Call call) {
        calls++;
        CHECK.due("call " + calls + ", " + what, want, call);
    }

    private void state(String what, Check.Call call) {
        calls++;
        CHECK.state("call " + calls + ", " + what, call);
    }

    private void argument(String what, Check.Call call) {
        calls++;
        CHECK.argument("call " + calls + ", " + what, call);
    }

    private boolean goesOn() {
        return calls < CALLS;
    }

    private void ended() {
        CHECK.due("the length of the run", CALLS, () -> calls);
    }

    private void row(int length) {
        for (int i = 0; i < length; i++) {
            int number = i;
            due("device", number, () -> x.device(number - 1));
        }
    }

    /** "at most 512 calls": eight devices come, and 504 more are refused. */
    private void devices() {
        row(8);
        while (goesOn()) {
            state("a ninth", () -> x.device(calls % 9 - 1));
        }
        ended();
    }

    /** "at most 512 calls": six points come, and all others are refused. */
    private void points() {
        row(1);
        for (int k = 1; k <= 6; k++) {
            int points = k;
            due("point", points, () -> x.point(0, points, points, points));
        }
        while (calls < CALLS - 1) {
            state("a seventh", () -> x.point(0, calls, 9, 9));
        }
        due("the last call", 6, () -> x.time(0, 5000, true));
        ended();
    }

    /** "at most 512 calls": three options come, and all others are refused. */
    private void options() {
        row(1);
        for (int k = 1; k <= 3; k++) {
            int number = k;
            due("option", number, () -> x.option(0, 100, number));
        }
        while (calls < CALLS - 1) {
            state("a fifth", () -> x.option(0, 10 + calls, calls));
        }
        argument("the last call", () -> x.choose(0, 4));
        ended();
    }

    /** "at most 512 calls": each choice answers the one before it. */
    private void chooses() {
        row(1);
        for (int k = 1; k <= 3; k++) {
            int number = k;
            due("option", number, () -> x.option(0, 100, number));
        }
        int was = 0;
        while (goesOn()) {
            int option = calls * 7 / 3 % 4;
            due("choose " + option, was, () -> x.choose(0, option));
            was = option;
        }
        ended();
    }

    /** "at most 512 calls": times of one curve. */
    private void times() {
        row(1);
        due("point", 1, () -> x.point(0, 10, 0, 0));
        due("point", 2, () -> x.point(0, 5000, 4990, 9980));
        while (goesOn()) {
            int current = 10 * calls;
            boolean most = calls % 2 == 1;
            if (current > 5000) {
                argument("time at " + current, () -> x.time(0, current, most));
            } else {
                due("time at " + current, (current - 10) * (most ? 2 : 1), () -> x.time(0, current, most));
            }
        }
        ended();
    }

    /** "at most 512 calls": orders of eight devices with full curves, each later by 100. */
    private void orders() {
        row(8);
        for (int i = 0; i < 8; i++) {
            for (int k = 1; k <= 6; k++) {
                int number = i;
                int points = k;
                due("point", points, () -> x.point(number, 800 * points, 100 * number, 100 * number));
            }
        }
        while (goesOn()) {
            int lower = calls % 8;
            int upper = (lower + 1 + calls / 8 % 7) % 8;
            int margin = calls % 3 == 0 ? 100 * Math.max(0, upper - lower) : 100 * Math.max(0, upper - lower) + 1;
            boolean inOrder = 100 * lower + margin <= 100 * upper;
            if (calls % 2 == 0) {
                due("order", inOrder ? NONE : 800, () -> x.order(lower, upper, margin));
            } else {
                due("broken", inOrder ? 0 : 4201, () -> x.broken(lower, upper, margin));
            }
        }
        ended();
    }

    /** "at most 512 calls": rows are found, and not found, and found again. */
    private void settles() {
        row(8);
        for (int i = 0; i < 8; i++) {
            int number = i;
            due("point", 1, () -> x.point(number, 1, 1000, 1000));
            for (int k = 1; k <= 3; k++) {
                int option = k;
                due("option", option, () -> x.option(number, 100, option * (700 - 100 * number)));
            }
        }
        int chosen = 0;
        while (goesOn()) {
            int margin = calls % 5 * 100;
            // Each option has so many hundreds of a difference between two devices as its number.
            boolean found = margin <= 300;
            if (found) {
                chosen = margin / 100;
            }
            due("settle by " + margin, found ? 1 : 0, () -> Check.bit(x.settle(margin)));
            if (goesOn()) {
                due("chosen", chosen, () -> x.chosen(0));
            }
        }
        ended();
    }

    /** "at most 512 calls": voltages and impedances, each answering the one before it. */
    private void shorts() {
        row(2);
        int volts = 0;
        int ohms = 100;
        while (goesOn()) {
            int step = calls;
            int wasVolts = volts;
            int wasOhms = ohms;
            if (step % 3 == 0) {
                volts = step * 1900;
                due("voltage", wasVolts, () -> x.voltage(step * 1900));
            } else if (step % 3 == 1) {
                ohms = 1 + step * 19;
                due("impedance", wasOhms, () -> x.impedance(1, 1 + step * 19));
            } else {
                due("shortAt", Math.min(5000, 1000 * volts / (100 + ohms)), () -> x.shortAt(1));
            }
        }
        ended();
    }

    /** "at most 512 calls": who opens, the delays of one going to and fro. */
    private void faults() {
        row(2);
        due("point", 1, () -> x.point(0, 1, 50, 60));
        due("point", 1, () -> x.point(1, 1, 40, 50));
        due("option", 1, () -> x.option(0, 100, 1));
        due("voltage", 0, () -> x.voltage(1000));
        int was = 0;
        while (goesOn()) {
            int option = calls / 3 % 2;
            int before = was;
            was = option;
            due("choose", before, () -> x.choose(0, option));
            if (goesOn()) {
                due("the first", 1, () -> x.opens(1, 0));
            }
            if (goesOn()) {
                due("the second", option == 0 ? 0 : NONE, () -> x.opens(1, 1));
            }
        }
        ended();
    }

    /** "at most 512 calls": 511 refused ones change nothing for the last. */
    private void refusals() {
        while (calls < CALLS - 1) {
            switch (calls % 5) {
                case 0 -> argument("device", () -> x.device(0));
                case 1 -> argument("voltage", () -> x.voltage(-1));
                case 2 -> argument("settle", () -> Check.bit(x.settle(10001)));
                case 3 -> argument("point", () -> x.point(0, 1, 0, 0));
                default -> argument("opens", () -> x.opens(0, 0));
            }
        }
        due("the last call", 0, () -> x.device(NONE));
        ended();
    }

    /** "at most 512 calls": the last of 512 is the last option that an object takes. */
    private void fullAtTheEnd() {
        while (calls < CALLS - 80) {
            due("settle", 1, () -> Check.bit(x.settle(0)));
        }
        row(8);
        for (int k = 1; k <= 6; k++) {
            for (int i = 0; i < 8; i++) {
                int number = i;
                int points = k;
                due("point", points, () -> x.point(number, points, 0, 0));
            }
        }
        for (int k = 1; k <= 3; k++) {
            for (int i = 0; i < 8; i++) {
                int number = i;
                int option = k;
                due("option", option, () -> x.option(number, 1000, 10000));
            }
        }
        ended();
    }
}
