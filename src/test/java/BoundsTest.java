/**
 * The bounds that stand under "Terms", one test for each part of a sentence that names one. A
 * test's remark quotes its sentence.
 */
public final class BoundsTest {
    private static final Check CHECK = new Check();
    private static final int NONE = BreakerOrders.NONE;
    private static final int MIN = Integer.MIN_VALUE;
    private static final int MAX = Integer.MAX_VALUE;

    public static void main(String[] args) {
        currentsThatAreGiven();
        currentsThatAreLookedAt();
        devicesAre0To7();
        upperOnesAreLesser();
        sixPoints();
        placesAre1To5000();
        placesRise();
        timesAre0To100000();
        leastIsNotAboveMost();
        optionsAre0To3();
        scalesAre10To1000();
        delaysAre0To10000();
        option0Has100And0();
        option0IsChosenAtFirst();
        marginsAre0To10000();
        impedancesAre1To10000();
        impedanceIs100AtFirst();
        voltagesAre0To1000000();
        voltageIs0AtFirst();
        CHECK.end();
    }

    /** Terms: "CURRENTS are whole numbers 1 .. 5000." */
    private static void currentsThatAreGiven() {
        BreakerOrders x = Make.curve(new int[] {1, 5, 6}, new int[] {5000, 7, 8});
        CHECK.due("the least current", 5, () -> x.time(0, 1, false));
        CHECK.due("the greatest current", 7, () -> x.time(0, 5000, false));
        for (int wrong : new int[] {0, 5001, -1, -5000, MIN, MAX}) {
            CHECK.argument("current " + wrong, () -> x.time(0, wrong, false));
            CHECK.argument("current " + wrong, () -> x.time(0, wrong, true));
        }
    }

    /** Terms: "CURRENTS are whole numbers 1 .. 5000." Order is broken at an end, or behind it. */
    private static void currentsThatAreLookedAt() {
        BreakerOrders first = Make.chain(2);
        Make.points(first, 0, new int[] {1, 0, 0}, new int[] {2, 100, 100});
        first.point(1, 1, 50, 50);
        CHECK.due("current 1 alone", 1, () -> first.order(1, 0, 0));
        CHECK.due("current 1 alone", 1, () -> first.broken(1, 0, 0));
        BreakerOrders last = Make.chain(2);
        Make.points(last, 0, new int[] {1, 100, 100}, new int[] {4999, 100, 100}, new int[] {5000, 0, 0});
        last.point(1, 1, 50, 50);
        CHECK.due("current 5000 alone", 5000, () -> last.order(1, 0, 0));
        CHECK.due("current 5000 alone", 1, () -> last.broken(1, 0, 0));
        CHECK.due("current 5000 alone", 0, () -> Check.bit(last.settle(0)));
        // By scale 1000 the upper one's time begins to fall at 5000 and is too little at 5010.
        BreakerOrders behind = Make.chain(2);
        Make.points(behind, 0, new int[] {1, 100, 100}, new int[] {500, 100, 100}, new int[] {501, 0, 0});
        behind.point(1, 1, 100, 100);
        Make.chooseNew(behind, 0, 1000, 0);
        behind.choose(1, 0);
        CHECK.due("behind 5000 alone", NONE, () -> behind.order(1, 0, 0));
        CHECK.due("behind 5000 alone", 0, () -> behind.broken(1, 0, 0));
        CHECK.due("all of them", 5000, () -> behind.broken(0, 1, 1));
        CHECK.due("the first of all", 1, () -> behind.order(0, 1, 1));
    }

    /** Terms: "DEVICES are 0 .. 7; each is below another one" - the numbers. */
    private static void devicesAre0To7() {
        BreakerOrders x = new BreakerOrders();
        for (int i = 0; i < 8; i++) {
            int number = i;
            CHECK.argument("not yet there", () -> x.chosen(number));
            CHECK.due("its number", number, () -> x.device(NONE));
            CHECK.due("now there", 0, () -> x.chosen(number));
        }
        CHECK.state("a device 8", () -> x.device(NONE));
        for (Numbers.Given given : Numbers.ofDevices(8)) {
            if (given.least() >= 0) {
                BreakerOrders full = Make.chain(8);
                CHECK.answers(given.name() + " 7", () -> given.call().answer(full, 7));
                CHECK.argument(given.name() + " 8", () -> given.call().answer(full, 8));
                CHECK.argument(given.name() + " -1", () -> given.call().answer(full, -1));
            }
        }
    }

    /** Terms: "each is below another one with a lesser number (its UPPER one), or below the source." */
    private static void upperOnesAreLesser() {
        BreakerOrders x = new BreakerOrders();
        x.voltage(400);
        CHECK.argument("0 below itself", () -> x.device(0));
        CHECK.due("0 below the source", 0, () -> x.device(NONE));
        CHECK.argument("1 below itself", () -> x.device(1));
        CHECK.argument("1 below a greater one", () -> x.device(2));
        CHECK.argument("1 below no number of a device", () -> x.device(-2));
        CHECK.due("1 below the one before it", 1, () -> x.device(0));
        CHECK.due("2 below the source", 2, () -> x.device(NONE));
        CHECK.due("3 below the least", 3, () -> x.device(0));
        CHECK.due("1 is below 0", 2000, () -> x.shortAt(1));
        CHECK.due("2 is below the source", 4000, () -> x.shortAt(2));
        CHECK.due("3 is below 0", 2000, () -> x.shortAt(3));
    }

    /** Terms: "A device has a CURVE: up to 6 POINTS" - six count, a seventh does not. */
    private static void sixPoints() {
        BreakerOrders x = Make.chain(2);
        CHECK.due("none", NONE, () -> x.time(0, 5000, false));
        for (int k = 1; k <= 6; k++) {
            int points = k;
            CHECK.due("how many", points, () -> x.point(0, 10 * points, 100 * points, 100 * points));
            CHECK.due("the last counts", 100 * points, () -> x.time(0, 5000, false));
        }
        CHECK.state("a seventh", () -> x.point(0, 70, 700, 700));
        CHECK.due("it does not count", 600, () -> x.time(0, 70, false));
        for (int k = 1; k <= 6; k++) {
            int points = k;
            CHECK.due("all six count", 100 * points, () -> x.time(0, 10 * points, true));
        }
        CHECK.due("another device has its own six", 1, () -> x.point(1, 70, 700, 700));
    }

    /** Terms: "each at a place (1 .. 5000; rising)" - the bounds. */
    private static void placesAre1To5000() {
        BreakerOrders x = Make.chain(1);
        for (int wrong : new int[] {0, 5001, -1, MIN, MAX}) {
            CHECK.argument("place " + wrong, () -> x.point(0, wrong, 1, 1));
        }
        CHECK.due("place 1", 1, () -> x.point(0, 1, 10, 10));
        CHECK.argument("place 5001, rising", () -> x.point(0, 5001, 1, 1));
        CHECK.due("place 5000", 2, () -> x.point(0, 5000, 20, 20));
        CHECK.due("at place 1", 10, () -> x.time(0, 1, false));
        CHECK.due("at place 5000", 20, () -> x.time(0, 5000, false));
        CHECK.due("ahead of place 5000", 19, () -> x.time(0, 4999, false));
    }

    /** Terms: "each at a place (1 .. 5000; rising)" - the row. */
    private static void placesRise() {
        BreakerOrders x = Make.chain(1);
        x.point(0, 50, 1, 1);
        CHECK.state("the same place", () -> x.point(0, 50, 2, 2));
        CHECK.state("a lesser place", () -> x.point(0, 49, 2, 2));
        CHECK.due("the next place", 2, () -> x.point(0, 51, 3, 3));
        CHECK.state("the place before the last", () -> x.point(0, 50, 2, 2));
        CHECK.due("the last place", 3, () -> x.point(0, 5000, 4, 4));
        CHECK.state("behind the last place is none", () -> x.point(0, 5000, 2, 2));
        CHECK.due("the first stands", 1, () -> x.time(0, 50, false));
        CHECK.due("the second stands", 3, () -> x.time(0, 51, false));
    }

    /** Terms: "with a LEAST and a MOST time (0 .. 100000, the least not above the most)" - the bounds. */
    private static void timesAre0To100000() {
        BreakerOrders x = Make.chain(1);
        int[][] wrong = {{-1, 0}, {-1, -1}, {0, -1}, {0, 100001}, {100000, 100001}, {100001, 100001},
            {MIN, 0}, {MIN, MIN}, {0, MAX}, {MAX, MAX}, {MIN, MAX}, {-1, 100001}};
        for (int[] w : wrong) {
            CHECK.argument("times " + w[0] + " and " + w[1], () -> x.point(0, 1, w[0], w[1]));
        }
        CHECK.due("0 and 0", 1, () -> x.point(0, 1, 0, 0));
        CHECK.due("0 and 100000", 2, () -> x.point(0, 2, 0, 100000));
        CHECK.due("100000 and 100000", 3, () -> x.point(0, 3, 100000, 100000));
        CHECK.due("least 0", 0, () -> x.time(0, 1, false));
        CHECK.due("most 0", 0, () -> x.time(0, 1, true));
        CHECK.due("least 0 under 100000", 0, () -> x.time(0, 2, false));
        CHECK.due("most 100000", 100000, () -> x.time(0, 2, true));
        CHECK.due("least 100000", 100000, () -> x.time(0, 3, false));
    }

    /** Terms: "with a LEAST and a MOST time (0 .. 100000, the least not above the most)" - the pair. */
    private static void leastIsNotAboveMost() {
        BreakerOrders x = Make.chain(1);
        CHECK.argument("one above", () -> x.point(0, 1, 51, 50));
        CHECK.argument("one above, at the least", () -> x.point(0, 1, 1, 0));
        CHECK.argument("one above, at the most", () -> x.point(0, 1, 100000, 99999));
        CHECK.argument("far above", () -> x.point(0, 1, 100000, 0));
        CHECK.due("the same", 1, () -> x.point(0, 1, 50, 50));
        CHECK.due("one below", 2, () -> x.point(0, 2, 49, 50));
    }

    /** Terms: "OPTIONS 0 .. 3" - four count, a fifth does not. */
    private static void optionsAre0To3() {
        BreakerOrders x = Make.curve(new int[] {1, 5, 5});
        for (int k = 1; k <= 3; k++) {
            int option = k;
            CHECK.argument("not yet there", () -> x.choose(0, option));
            CHECK.due("its number", option, () -> x.option(0, 100, 10 * option));
        }
        CHECK.state("a fifth", () -> x.option(0, 100, 40));
        for (int wrong : new int[] {4, -1, MIN, MAX}) {
            CHECK.argument("option " + wrong, () -> x.choose(0, wrong));
        }
        for (int k = 3; k >= 0; k--) {
            int option = k;
            CHECK.due("chosen", option == 3 ? 0 : option + 1, () -> x.choose(0, option));
            CHECK.due("it counts", 5 + 10 * option, () -> x.time(0, 1, false));
        }
    }

    /** Terms: "each with a SCALE (10 .. 1000 hundredths)". */
    private static void scalesAre10To1000() {
        BreakerOrders x = Make.curve(new int[] {10, 5, 5});
        for (int wrong : new int[] {9, 1001, 0, -10, -100, MIN, MAX}) {
            CHECK.argument("scale " + wrong, () -> x.option(0, wrong, 0));
        }
        CHECK.due("scale 10", 1, () -> x.option(0, 10, 0));
        CHECK.due("scale 1000", 2, () -> x.option(0, 1000, 0));
        x.choose(0, 1);
        CHECK.due("a tenth", 1, () -> x.opensFrom(0));
        x.choose(0, 2);
        CHECK.due("tenfold", 100, () -> x.opensFrom(0));
    }

    /** Terms: "and a DELAY (0 .. 10000)". */
    private static void delaysAre0To10000() {
        BreakerOrders x = Make.curve(new int[] {1, 100000, 100000});
        for (int wrong : new int[] {-1, 10001, -10000, MIN, MAX}) {
            CHECK.argument("delay " + wrong, () -> x.option(0, 100, wrong));
        }
        CHECK.due("delay 0", 1, () -> x.option(0, 100, 0));
        CHECK.due("delay 10000", 2, () -> x.option(0, 100, 10000));
        x.choose(0, 1);
        CHECK.due("nothing comes to it", 100000, () -> x.time(0, 1, true));
        x.choose(0, 2);
        CHECK.due("the most comes to it", 110000, () -> x.time(0, 1, true));
    }

    /** Terms: "option 0 has 100 and 0". */
    private static void option0Has100And0() {
        BreakerOrders x = Make.chain(8);
        for (int i = 0; i < 8; i++) {
            int number = i;
            x.point(number, 7, 3, 4);
            CHECK.due("scale 100", 7, () -> x.opensFrom(number));
            CHECK.due("delay 0", 3, () -> x.time(number, 7, false));
            Make.chooseNew(x, number, 200, 50);
            x.choose(number, 0);
            CHECK.due("scale 100 still", 7, () -> x.opensFrom(number));
            CHECK.due("delay 0 still", 4, () -> x.time(number, 7, true));
        }
    }

    /** Terms: "it is CHOSEN at first." */
    private static void option0IsChosenAtFirst() {
        BreakerOrders x = new BreakerOrders();
        for (int i = 0; i < 8; i++) {
            int number = i;
            x.device(number - 1);
            CHECK.due("a new device", 0, () -> x.chosen(number));
            x.option(number, 200, 50);
            CHECK.due("an option more changes nothing", 0, () -> x.choose(number, 1));
        }
    }

    /** Terms: "by a MARGIN (0 .. 10000)". */
    private static void marginsAre0To10000() {
        BreakerOrders x = Make.level(10000, 0);
        for (int wrong : new int[] {-1, 10001, -10000, MIN, MAX}) {
            CHECK.argument("order by " + wrong, () -> x.order(1, 0, wrong));
            CHECK.argument("broken by " + wrong, () -> x.broken(1, 0, wrong));
            CHECK.argument("settle by " + wrong, () -> Check.bit(x.settle(wrong)));
        }
        for (int right : new int[] {0, 10000}) {
            CHECK.due("order by " + right, NONE, () -> x.order(1, 0, right));
            CHECK.due("broken by " + right, 0, () -> x.broken(1, 0, right));
            CHECK.due("settle by " + right, 1, () -> Check.bit(x.settle(right)));
        }
        BreakerOrders y = Make.level(9999, 0);
        CHECK.due("order by the most", 1, () -> y.order(1, 0, 10000));
        CHECK.due("broken by the most", 5000, () -> y.broken(1, 0, 10000));
        CHECK.due("settle by the most", 0, () -> Check.bit(y.settle(10000)));
    }

    /** Terms: "a device has an IMPEDANCE (1 .. 10000), at first 100" - the bounds. */
    private static void impedancesAre1To10000() {
        BreakerOrders x = Make.chain(1);
        x.voltage(3);
        for (int wrong : new int[] {0, 10001, -1, -100, MIN, MAX}) {
            CHECK.argument("impedance " + wrong, () -> x.impedance(0, wrong));
        }
        CHECK.due("impedance 1", 100, () -> x.impedance(0, 1));
        CHECK.due("it counts", 3000, () -> x.shortAt(0));
        CHECK.due("impedance 10000", 1, () -> x.impedance(0, 10000));
        CHECK.due("it counts", 0, () -> x.shortAt(0));
        x.voltage(10);
        CHECK.due("it counts", 1, () -> x.shortAt(0));
        CHECK.due("it stands", 10000, () -> x.impedance(0, 2));
    }

    /** Terms: "a device has an IMPEDANCE (1 .. 10000), at first 100" - the first one. */
    private static void impedanceIs100AtFirst() {
        BreakerOrders x = new BreakerOrders();
        x.voltage(80);
        for (int i = 0; i < 8; i++) {
            int number = i;
            x.device(number - 1);
            CHECK.due("by the sum of hundreds", 800 / (number + 1), () -> x.shortAt(number));
        }
        for (int i = 0; i < 8; i++) {
            int number = i;
            CHECK.due("at first", 100, () -> x.impedance(number, 7));
        }
    }

    /** Terms: "the source a VOLTAGE (0 .. 1000000), at first 0." - the bounds. */
    private static void voltagesAre0To1000000() {
        BreakerOrders x = Make.chain(8);
        for (int i = 0; i < 8; i++) {
            x.impedance(i, 10000);
        }
        x.voltage(5);
        for (int wrong : new int[] {-1, 1000001, -1000000, MIN, MAX}) {
            CHECK.argument("voltage " + wrong, () -> x.voltage(wrong));
        }
        CHECK.due("voltage 1000000", 5, () -> x.voltage(1000000));
        CHECK.due("it counts", 5000, () -> x.shortAt(7));
        CHECK.due("voltage 0", 1000000, () -> x.voltage(0));
        CHECK.due("it counts", 0, () -> x.shortAt(7));
        CHECK.due("it stands", 0, () -> x.voltage(1));
    }

    /** Terms: "the source a VOLTAGE (0 .. 1000000), at first 0." - the first one. */
    private static void voltageIs0AtFirst() {
        BreakerOrders x = Make.chain(1);
        x.impedance(0, 1);
        x.point(0, 1, 0, 0);
        CHECK.due("no current", 0, () -> x.shortAt(0));
        CHECK.due("nothing opens", NONE, () -> x.opens(0, 0));
        CHECK.due("at first", 0, () -> x.voltage(1));
        BreakerOrders y = new BreakerOrders();
        CHECK.due("at first, without a device", 0, () -> y.voltage(1));
    }
}
