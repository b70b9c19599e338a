/** Each promise of the document, by hand: ordinary inputs, the edges, and wrong inputs. */
public final class PromisesTest {
    private static final Check CHECK = new Check();
    private static final int NONE = BreakerOrders.NONE;
    private static final int MIN = Integer.MIN_VALUE;
    private static final int MAX = Integer.MAX_VALUE;

    public static void main(String[] args) {
        newObject();
        device();
        pointBounds();
        pointStates();
        option();
        choose();
        timeOnOneCurve();
        timeMoved();
        timeAtTheBounds();
        opensFrom();
        order();
        orderWithoutPoints();
        orderIsExact();
        orderOfGreatestNumbers();
        orderIsAtWholeCurrents();
        orderWrongInputs();
        broken();
        settleWithoutPairs();
        settleFindsTheFirstRow();
        settleFindsNothing();
        settleLooksAhead();
        settleOnABranchedTree();
        settleWrongInputs();
        chosen();
        impedance();
        voltage();
        shortAt();
        opens();
        opensExactly();
        opensAtNoCurrent();
        opensWrongInputs();
        CHECK.end();
    }

    // Promise 1
    private static void newObject() {
        BreakerOrders x = new BreakerOrders();
        CHECK.due("1: NONE", -1, () -> BreakerOrders.NONE);
        CHECK.argument("1: point", () -> x.point(0, 1, 0, 0));
        CHECK.argument("1: option", () -> x.option(0, 100, 0));
        CHECK.argument("1: choose", () -> x.choose(0, 0));
        CHECK.argument("1: time", () -> x.time(0, 1, true));
        CHECK.argument("1: opensFrom", () -> x.opensFrom(0));
        CHECK.argument("1: order", () -> x.order(1, 0, 0));
        CHECK.argument("1: broken", () -> x.broken(1, 0, 0));
        CHECK.argument("1: chosen", () -> x.chosen(0));
        CHECK.argument("1: impedance", () -> x.impedance(0, 1));
        CHECK.argument("1: shortAt", () -> x.shortAt(0));
        CHECK.argument("1: opens", () -> x.opens(0, 0));
        CHECK.due("1: settle", 1, () -> Check.bit(x.settle(0)));
        CHECK.due("1: voltage", 0, () -> x.voltage(0));
        BreakerOrders other = new BreakerOrders();
        other.device(NONE);
        CHECK.argument("1: objects share nothing", () -> x.chosen(0));
    }

    // Promise 2
    private static void device() {
        BreakerOrders x = new BreakerOrders();
        for (int wrong : new int[] {0, 1, -2, 7, MIN, MAX}) {
            CHECK.argument("2: first below " + wrong, () -> x.device(wrong));
        }
        CHECK.due("2: below the source", 0, () -> x.device(NONE));
        CHECK.argument("2: below itself", () -> x.device(1));
        CHECK.due("2: below 0", 1, () -> x.device(0));
        CHECK.due("2: below 0 again", 2, () -> x.device(0));
        CHECK.due("2: a second one below the source", 3, () -> x.device(NONE));
        for (int i = 4; i < 8; i++) {
            int number = i;
            CHECK.argument("2: below one that is not there", () -> x.device(number));
            CHECK.due("2: device " + number, number, () -> x.device(number - 1));
        }
        CHECK.state("2: the ninth", () -> x.device(0));
        CHECK.state("2: the ninth below the source", () -> x.device(NONE));
        CHECK.argument("2: the argument is looked at first", () -> x.device(8));
        CHECK.argument("2: the argument is looked at first", () -> x.device(-2));
        CHECK.argument("2: nothing has been added", () -> x.chosen(8));
        CHECK.due("2: the eighth is there", 0, () -> x.chosen(7));
    }

    // Promise 3
    private static void pointBounds() {
        BreakerOrders x = Make.chain(1);
        int[][] wrong = {
            {-1, 1, 0, 0}, {1, 1, 0, 0}, {MIN, 1, 0, 0}, {MAX, 1, 0, 0},
            {0, 0, 0, 0}, {0, 5001, 0, 0}, {0, -1, 0, 0}, {0, MIN, 0, 0}, {0, MAX, 0, 0},
            {0, 1, -1, 0}, {0, 1, MIN, 0}, {0, 1, -2, -1}, {0, 1, 0, -1},
            {0, 1, 0, 100001}, {0, 1, 100001, 100001}, {0, 1, 0, MAX}, {0, 1, MAX, MAX},
            {0, 1, 1, 0}, {0, 1, 100000, 99999}, {0, 1, 100001, 100000},
        };
        for (int[] w : wrong) {
            String what = "3: point(" + w[0] + ", " + w[1] + ", " + w[2] + ", " + w[3] + ")";
            CHECK.argument(what, () -> x.point(w[0], w[1], w[2], w[3]));
        }
        CHECK.due("3: none has been added", NONE, () -> x.opensFrom(0));
        CHECK.due("3: the first place, the first times", 1, () -> x.point(0, 1, 0, 0));
        CHECK.due("3: the last place, the last times", 2, () -> x.point(0, 5000, 100000, 100000));
    }

    private static void pointStates() {
        BreakerOrders x = Make.chain(2);
        CHECK.due("3: one", 1, () -> x.point(0, 10, 7, 7));
        CHECK.state("3: at the last one's place", () -> x.point(0, 10, 9, 9));
        CHECK.state("3: ahead of it", () -> x.point(0, 9, 9, 9));
        CHECK.argument("3: the argument is looked at first", () -> x.point(0, 9, 9, 8));
        CHECK.due("3: nothing has changed", 7, () -> x.time(0, 10, true));
        for (int i = 2; i <= 6; i++) {
            int number = i;
            CHECK.due("3: point " + number, number, () -> x.point(0, 9 + number, 7, 7));
        }
        CHECK.state("3: the seventh", () -> x.point(0, 5000, 9, 9));
        CHECK.argument("3: the seventh, and a false place", () -> x.point(0, 5001, 9, 9));
        CHECK.due("3: the seventh has not been added", 7, () -> x.time(0, 5000, true));
        CHECK.due("3: another device's curve", 1, () -> x.point(1, 10, 1, 2));
    }

    // Promise 4
    private static void option() {
        BreakerOrders x = Make.chain(2);
        int[][] wrong = {
            {2, 100, 0}, {-1, 100, 0}, {0, 9, 0}, {0, 1001, 0}, {0, 0, 0}, {0, -100, 0}, {0, MIN, 0},
            {0, MAX, 0}, {0, 100, -1}, {0, 100, 10001}, {0, 100, MIN}, {0, 100, MAX},
        };
        for (int[] w : wrong) {
            CHECK.argument("4: option(" + w[0] + ", " + w[1] + ", " + w[2] + ")", () -> x.option(w[0], w[1], w[2]));
        }
        CHECK.due("4: the least numbers", 1, () -> x.option(0, 10, 0));
        CHECK.due("4: the most numbers", 2, () -> x.option(0, 1000, 10000));
        CHECK.due("4: the fourth", 3, () -> x.option(0, 200, 5));
        CHECK.state("4: the fifth", () -> x.option(0, 200, 5));
        CHECK.argument("4: the argument is looked at first", () -> x.option(0, 9, 5));
        CHECK.argument("4: the fifth has not been added", () -> x.choose(0, 4));
        CHECK.due("4: another device's options", 1, () -> x.option(1, 100, 0));
        CHECK.due("4: none is chosen by it", 0, () -> x.chosen(0));
    }

    // Promise 5
    private static void choose() {
        BreakerOrders x = Make.chain(2);
        CHECK.due("5: the only one", 0, () -> x.choose(0, 0));
        CHECK.argument("5: one too great", () -> x.choose(0, 1));
        x.option(0, 100, 10);
        x.option(0, 100, 20);
        x.point(0, 1, 5, 5);
        CHECK.due("5: the second", 0, () -> x.choose(0, 1));
        CHECK.due("5: it counts", 15, () -> x.time(0, 1, false));
        CHECK.due("5: the third", 1, () -> x.choose(0, 2));
        CHECK.due("5: it counts", 25, () -> x.time(0, 1, false));
        for (int wrong : new int[] {3, 4, -1, MIN, MAX}) {
            CHECK.argument("5: option " + wrong, () -> x.choose(0, wrong));
        }
        CHECK.argument("5: another device has one alone", () -> x.choose(1, 1));
        CHECK.argument("5: no device", () -> x.choose(2, 0));
        CHECK.argument("5: no device", () -> x.choose(-1, 0));
        CHECK.due("5: nothing has changed", 2, () -> x.choose(0, 0));
        CHECK.due("5: nor there", 0, () -> x.choose(1, 0));
        CHECK.due("5: option 0 has scale 100 and delay 0", 5, () -> x.time(0, 1, false));
    }

    // Promise 6
    private static void timeOnOneCurve() {
        BreakerOrders x = Make.chain(1);
        CHECK.due("6: no point", NONE, () -> x.time(0, 5000, true));
        x.point(0, 100, 1000, 1200);
        CHECK.due("6: one point, ahead of it", NONE, () -> x.time(0, 99, false));
        CHECK.due("6: one point, at it", 1000, () -> x.time(0, 100, false));
        CHECK.due("6: one point, behind it", 1200, () -> x.time(0, 5000, true));
        x.point(0, 103, 995, 1195);
        CHECK.due("6: 1000 - 5/3", 998, () -> x.time(0, 101, false));
        CHECK.due("6: 1000 - 10/3", 996, () -> x.time(0, 102, false));
        CHECK.due("6: 1200 - 5/3", 1198, () -> x.time(0, 101, true));
        CHECK.due("6: at the second", 995, () -> x.time(0, 103, false));
        CHECK.due("6: behind it", 995, () -> x.time(0, 104, false));
        x.point(0, 110, 1000, 2000);
        x.point(0, 120, 0, 0);
        x.point(0, 130, 50, 60);
        x.point(0, 5000, 50, 100000);
        CHECK.due("6: rising, 995 + 5/7", 995, () -> x.time(0, 104, false));
        CHECK.due("6: rising, 995 + 30/7", 999, () -> x.time(0, 109, false));
        CHECK.due("6: at the third", 1000, () -> x.time(0, 110, false));
        CHECK.due("6: at the fourth", 0, () -> x.time(0, 120, true));
        CHECK.due("6: at the fifth", 60, () -> x.time(0, 130, true));
        CHECK.due("6: ahead of the sixth", 99979, () -> x.time(0, 4999, true));
        CHECK.due("6: at the sixth", 100000, () -> x.time(0, 5000, true));
        for (int wrong : new int[] {0, 5001, -1, MIN, MAX}) {
            CHECK.argument("6: current " + wrong, () -> x.time(0, wrong, true));
        }
        CHECK.argument("6: no device", () -> x.time(1, 1, true));
        CHECK.argument("6: no device", () -> x.time(-1, 1, true));
    }

    private static void timeMoved() {
        BreakerOrders x = Make.chain(1);
        x.point(0, 100, 1000, 1200);
        x.point(0, 200, 500, 600);
        x.option(0, 33, 7);
        x.option(0, 250, 3);
        x.choose(0, 1);
        CHECK.due("6: x = 3200/33", NONE, () -> x.time(0, 32, false));
        CHECK.due("6: x = 100", 1007, () -> x.time(0, 33, false));
        CHECK.due("6: x = 3400/33: 1007 - 500/33", 991, () -> x.time(0, 34, false));
        CHECK.due("6: x = 6500/33: 1007 - 16000/33", 522, () -> x.time(0, 65, false));
        CHECK.due("6: x = 200", 507, () -> x.time(0, 66, false));
        x.choose(0, 2);
        CHECK.due("6: x = 99.6", NONE, () -> x.time(0, 249, true));
        CHECK.due("6: x = 100", 1203, () -> x.time(0, 250, true));
        CHECK.due("6: x = 100.4: 1203 - 2.4", 1200, () -> x.time(0, 251, true));
        CHECK.due("6: the delay comes to the least, too", 503, () -> x.time(0, 5000, false));
    }

    private static void timeAtTheBounds() {
        BreakerOrders x = Make.chain(1);
        x.point(0, 1, 0, 100000);
        x.point(0, 5000, 100000, 100000);
        x.option(0, 1000, 10000);
        x.option(0, 10, 0);
        x.choose(0, 1);
        CHECK.due("6: x = 0.9", NONE, () -> x.time(0, 9, true));
        CHECK.due("6: x = 1", 110000, () -> x.time(0, 10, true));
        CHECK.due("6: x = 500: 10000 + 100000 * 499/4999", 19981, () -> x.time(0, 5000, false));
        x.choose(0, 2);
        CHECK.due("6: x = 10: 100000 * 9/4999", 180, () -> x.time(0, 1, false));
        CHECK.due("6: x = 4990: 100000 * 4989/4999", 99799, () -> x.time(0, 499, false));
        CHECK.due("6: x = 5000", 100000, () -> x.time(0, 500, false));
        CHECK.due("6: x = 50000", 100000, () -> x.time(0, 5000, false));
    }

    // Promise 7
    private static void opensFrom() {
        BreakerOrders x = Make.chain(2);
        CHECK.due("7: no point", NONE, () -> x.opensFrom(0));
        x.point(0, 101, 1, 1);
        x.point(0, 102, 1, 1);
        x.option(0, 33, 0);
        x.option(0, 10, 0);
        x.option(0, 1000, 0);
        CHECK.due("7: at the first point", 101, () -> x.opensFrom(0));
        x.choose(0, 1);
        CHECK.due("7: 33.33 up", 34, () -> x.opensFrom(0));
        x.choose(0, 2);
        CHECK.due("7: 10.1 up", 11, () -> x.opensFrom(0));
        x.choose(0, 3);
        CHECK.due("7: 1010", 1010, () -> x.opensFrom(0));
        x.point(1, 500, 1, 1);
        x.option(1, 1000, 0);
        x.choose(1, 1);
        CHECK.due("7: the last current", 5000, () -> x.opensFrom(1));
        BreakerOrders y = Make.chain(2);
        y.point(0, 501, 1, 1);
        y.option(0, 1000, 0);
        y.choose(0, 1);
        y.point(1, 1, 1, 1);
        y.option(1, 10, 0);
        y.choose(1, 1);
        CHECK.due("7: behind the last current", NONE, () -> y.opensFrom(0));
        CHECK.due("7: 0.1 up", 1, () -> y.opensFrom(1));
        CHECK.argument("7: no device", () -> y.opensFrom(2));
        CHECK.argument("7: no device", () -> y.opensFrom(-1));
    }

    // Promise 8
    private static void order() {
        BreakerOrders x = Make.level(500, 400);
        CHECK.due("8: by less than it has", NONE, () -> x.order(1, 0, 99));
        CHECK.due("8: by what it has", NONE, () -> x.order(1, 0, 100));
        CHECK.due("8: by more", 1, () -> x.order(1, 0, 101));
        CHECK.due("8: the other way round", 1, () -> x.order(0, 1, 0));
        x.option(0, 100, 1);
        x.choose(0, 1);
        CHECK.due("8: with the chosen option", NONE, () -> x.order(1, 0, 101));
        CHECK.due("8: with the chosen option", 1, () -> x.order(1, 0, 102));
        x.choose(0, 0);
        x.point(0, 11, 400, 100000);
        CHECK.due("8: the first in the middle of a piece", 4, () -> x.order(1, 0, 80));
        CHECK.due("8: the first at its end", 11, () -> x.order(1, 0, 1));
        BreakerOrders y = new BreakerOrders();
        y.device(NONE);
        y.device(NONE);
        y.point(0, 5, 10, 10);
        y.point(1, 5, 10, 10);
        CHECK.due("8: any two", NONE, () -> y.order(0, 1, 0));
        CHECK.due("8: any two", 5, () -> y.order(1, 0, 1));
    }

    private static void orderWithoutPoints() {
        BreakerOrders x = Make.chain(2);
        CHECK.due("8: neither opens", NONE, () -> x.order(1, 0, 10000));
        CHECK.due("9: neither opens", 0, () -> x.broken(1, 0, 10000));
        x.point(0, 4999, 100000, 100000);
        CHECK.due("8: the upper one alone", 4999, () -> x.order(1, 0, 0));
        CHECK.due("9: the upper one alone", 2, () -> x.broken(1, 0, 0));
        CHECK.due("8: the lower one alone", NONE, () -> x.order(0, 1, 10000));
        CHECK.due("9: the lower one alone", 0, () -> x.broken(0, 1, 10000));
        x.point(1, 5000, 0, 0);
        CHECK.due("8: the lower one opens later", 4999, () -> x.order(1, 0, 0));
        CHECK.due("9: the lower one opens later", 1, () -> x.broken(1, 0, 0));
    }

    /** At current 2 the upper one has 10 - 1/3, the lower ones 10 - 1/2 and 10 - 1/4. */
    private static void orderIsExact() {
        BreakerOrders y = Make.chain(3);
        y.point(0, 1, 10, 10);
        y.point(0, 4, 9, 9);
        y.point(1, 1, 10, 10);
        y.point(1, 3, 9, 9);
        y.point(2, 1, 10, 10);
        y.point(2, 5, 9, 9);
        CHECK.due("8: rounded down both are 9", 9, () -> y.time(0, 2, false));
        CHECK.due("8: rounded down both are 9", 9, () -> y.time(2, 2, true));
        CHECK.due("8: a sixth below", NONE, () -> y.order(1, 0, 0));
        CHECK.due("8: a twelfth above", 2, () -> y.order(2, 0, 0));
        CHECK.due("9: a twelfth above, at 2, 3 and 4", 3, () -> y.broken(2, 0, 0));
    }

    /** With scale 999 the lower one is later by I * 100000 / (4999 * 9990), more than 1 from 500 on. */
    private static void orderOfGreatestNumbers() {
        BreakerOrders x = Make.chain(2);
        x.point(0, 1, 0, 100000);
        x.point(0, 5000, 100000, 100000);
        x.point(1, 1, 0, 0);
        x.point(1, 5000, 100000, 100000);
        x.option(0, 1000, 10000);
        x.option(1, 1000, 0);
        x.option(1, 999, 0);
        x.choose(0, 1);
        x.choose(1, 1);
        CHECK.due("8: the greatest numbers, alike", NONE, () -> x.order(1, 0, 10000));
        CHECK.due("9: the greatest numbers, alike", 0, () -> x.broken(1, 0, 10000));
        x.choose(1, 2);
        CHECK.due("8: the greatest numbers, a thousandth off", 10, () -> x.order(1, 0, 10000));
        CHECK.due("9: the greatest numbers, a thousandth off", 4991, () -> x.broken(1, 0, 10000));
        CHECK.due("8: the greatest numbers, later by 1", 500, () -> x.order(1, 0, 9999));
        CHECK.due("9: the greatest numbers, later by 1", 4501, () -> x.broken(1, 0, 9999));
    }

    /** With scale 10 the lower one is too late between the currents 3 and 4 alone. */
    private static void orderIsAtWholeCurrents() {
        BreakerOrders x = Make.chain(2);
        x.point(0, 1, 100, 100);
        int[][] peak = {{1, 0}, {33, 0}, {34, 200}, {36, 200}, {37, 0}};
        for (int[] p : peak) {
            x.point(1, p[0], p[1], p[1]);
        }
        x.option(1, 10, 0);
        x.choose(1, 1);
        CHECK.due("8: the peak is between two currents", NONE, () -> x.order(1, 0, 0));
        CHECK.due("9: the peak is between two currents", 0, () -> x.broken(1, 0, 0));
        x.choose(1, 0);
        CHECK.due("8: the peak is at whole ones", 34, () -> x.order(1, 0, 0));
        CHECK.due("9: the peak is at whole ones", 3, () -> x.broken(1, 0, 0));
    }

    private static void orderWrongInputs() {
        BreakerOrders x = Make.chain(2);
        int[][] wrong = {
            {0, 0, 0}, {1, 1, 0}, {0, 2, 0}, {2, 0, 0}, {-1, 0, 0}, {0, -1, 0}, {MIN, 0, 0}, {0, MAX, 0},
            {2, 2, 0}, {-1, -1, 0}, {0, 1, -1}, {0, 1, 10001}, {1, 0, MIN}, {1, 0, MAX},
        };
        for (int[] w : wrong) {
            String tail = "(" + w[0] + ", " + w[1] + ", " + w[2] + ")";
            CHECK.argument("8: order" + tail, () -> x.order(w[0], w[1], w[2]));
            CHECK.argument("9: broken" + tail, () -> x.broken(w[0], w[1], w[2]));
        }
        CHECK.due("8: the greatest margin", NONE, () -> x.order(0, 1, 10000));
    }

    // Promise 9
    private static void broken() {
        BreakerOrders x = Make.level(500, 400);
        CHECK.due("9: in order", 0, () -> x.broken(1, 0, 100));
        CHECK.due("9: at every current", 5000, () -> x.broken(1, 0, 101));
        x.point(0, 11, 400, 100000);
        CHECK.due("9: from the middle of a piece on", 4997, () -> x.broken(1, 0, 80));
        CHECK.due("9: from its end on", 4990, () -> x.broken(1, 0, 1));
        x.point(0, 21, 500, 100000);
        CHECK.due("9: a dent's whole width but its ends", 19, () -> x.broken(1, 0, 100));
        CHECK.due("9: a dent's lower half, its turns in order", 9, () -> x.broken(1, 0, 50));
        CHECK.due("9: a dent's lower half and its turns", 11, () -> x.broken(1, 0, 51));
        CHECK.due("9: a dent's last current", 1, () -> x.broken(1, 0, 1));
        CHECK.due("8: a dent's first current", 7, () -> x.order(1, 0, 50));
        x.point(0, 4999, 500, 100000);
        x.point(0, 5000, 0, 100000);
        CHECK.due("9: the last current alone", 1, () -> x.broken(1, 0, 0));
        CHECK.due("8: the last current alone", 5000, () -> x.order(1, 0, 0));
    }

    // Promise 10
    private static void settleWithoutPairs() {
        BreakerOrders x = new BreakerOrders();
        CHECK.due("10: no device", 1, () -> Check.bit(x.settle(10000)));
        x.device(NONE);
        x.device(NONE);
        x.point(0, 1, 0, 0);
        x.point(1, 1, 0, 0);
        x.option(0, 100, 0);
        x.option(1, 100, 0);
        x.choose(0, 1);
        x.choose(1, 1);
        CHECK.due("10: all below the source", 1, () -> Check.bit(x.settle(10000)));
        CHECK.due("10: the first options", 0, () -> x.chosen(0));
        CHECK.due("10: the first options", 0, () -> x.chosen(1));
    }

    private static void settleFindsTheFirstRow() {
        BreakerOrders x = Make.level(100, 100);
        x.option(0, 100, 50);
        x.option(0, 100, 200);
        x.option(0, 100, 40);
        x.option(1, 100, 30);
        x.choose(1, 1);
        CHECK.due("10: as they are made", 1, () -> Check.bit(x.settle(0)));
        CHECK.due("10: row 0, 0", 0, () -> x.chosen(0) * 10 + x.chosen(1));
        CHECK.due("10: the first that goes, not the nearest", 1, () -> Check.bit(x.settle(40)));
        CHECK.due("10: row 1, 0", 10, () -> x.chosen(0) * 10 + x.chosen(1));
        CHECK.due("10: a margin met exactly", 1, () -> Check.bit(x.settle(200)));
        CHECK.due("10: row 2, 0", 20, () -> x.chosen(0) * 10 + x.chosen(1));
        CHECK.due("10: a margin beyond", 0, () -> Check.bit(x.settle(201)));
        CHECK.due("10: changes nothing", 20, () -> x.chosen(0) * 10 + x.chosen(1));
    }

    private static void settleFindsNothing() {
        BreakerOrders x = Make.chain(3);
        x.point(0, 1, 100, 100);
        x.point(1, 1, 50, 50);
        x.point(2, 1, 60, 60);
        for (int i = 0; i < 3; i++) {
            x.option(i, 100, 1);
            x.option(i, 100, 2);
            x.choose(i, i);
        }
        CHECK.due("10: none", 0, () -> Check.bit(x.settle(0)));
        for (int i = 0; i < 3; i++) {
            int number = i;
            CHECK.due("10: the options stand", number, () -> x.chosen(number));
        }
        CHECK.due("10: none again", 0, () -> Check.bit(x.settle(0)));
        x.option(1, 100, 10);
        CHECK.due("10: one option more", 1, () -> Check.bit(x.settle(0)));
        CHECK.due("10: row 0, 3, 0", 30, () -> x.chosen(0) * 100 + x.chosen(1) * 10 + x.chosen(2));
    }

    /** Device 1's option 0 goes with 0's, but device 2 goes with neither of 1's that do. */
    private static void settleLooksAhead() {
        BreakerOrders x = Make.chain(3);
        x.point(0, 1, 100, 100);
        x.point(1, 1, 100, 100);
        x.point(2, 1, 130, 130);
        x.option(0, 100, 20);
        x.option(0, 100, 60);
        x.option(0, 100, 40);
        x.option(1, 100, 20);
        x.option(1, 100, 40);
        x.option(1, 100, 30);
        CHECK.due("10: it goes back", 1, () -> Check.bit(x.settle(0)));
        CHECK.due("10: row 2, 2, 0", 220, () -> x.chosen(0) * 100 + x.chosen(1) * 10 + x.chosen(2));
    }

    /** 1 and 2 are below 0, 3 is below 1; 4 is below the source with 5 below it. */
    private static void settleOnABranchedTree() {
        BreakerOrders x = new BreakerOrders();
        int[] uppers = {NONE, 0, 0, 1, NONE, 4};
        int[] times = {100, 90, 105, 95, 10, 20};
        for (int i = 0; i < uppers.length; i++) {
            x.device(uppers[i]);
            x.point(i, 1, times[i], times[i]);
            x.option(i, 100, 4);
            x.option(i, 100, 8);
        }
        CHECK.due("10: 5 goes with no option of 4", 0, () -> Check.bit(x.settle(0)));
        x.option(4, 100, 10);
        CHECK.due("10: the tree", 1, () -> Check.bit(x.settle(0)));
        int[] due = {2, 2, 0, 0, 3, 0};
        for (int i = 0; i < due.length; i++) {
            int number = i;
            CHECK.due("10: the option of " + number, due[number], () -> x.chosen(number));
        }
    }

    private static void settleWrongInputs() {
        BreakerOrders x = Make.level(100, 100);
        x.option(0, 100, 0);
        x.choose(0, 1);
        for (int wrong : new int[] {-1, 10001, MIN, MAX}) {
            CHECK.argument("10: margin " + wrong, () -> Check.bit(x.settle(wrong)));
        }
        CHECK.due("10: nothing has changed", 1, () -> x.chosen(0));
        CHECK.due("10: the least margin", 1, () -> Check.bit(x.settle(0)));
        CHECK.due("10: the most margin", 0, () -> Check.bit(x.settle(10000)));
    }

    // Promise 11
    private static void chosen() {
        BreakerOrders x = Make.chain(8);
        for (int i = 0; i < 8; i++) {
            int number = i;
            CHECK.due("11: at first", 0, () -> x.chosen(number));
        }
        x.option(7, 50, 5);
        CHECK.due("11: an option more chooses nothing", 0, () -> x.chosen(7));
        x.choose(7, 1);
        CHECK.due("11: the chosen one", 1, () -> x.chosen(7));
        CHECK.due("11: of that device alone", 0, () -> x.chosen(6));
        for (int wrong : new int[] {-1, 8, MIN, MAX}) {
            CHECK.argument("11: device " + wrong, () -> x.chosen(wrong));
        }
    }

    // Promise 12
    private static void impedance() {
        BreakerOrders x = Make.chain(2);
        CHECK.due("12: at first", 100, () -> x.impedance(0, 1));
        CHECK.due("12: the least", 1, () -> x.impedance(0, 10000));
        for (int wrong : new int[] {0, -1, 10001, MIN, MAX}) {
            CHECK.argument("12: impedance " + wrong, () -> x.impedance(0, wrong));
        }
        CHECK.due("12: the most; nothing has changed", 10000, () -> x.impedance(0, 5));
        CHECK.due("12: another device's", 100, () -> x.impedance(1, 6));
        CHECK.argument("12: no device", () -> x.impedance(2, 5));
        CHECK.argument("12: no device", () -> x.impedance(-1, 5));
    }

    // Promise 13
    private static void voltage() {
        BreakerOrders x = Make.chain(1);
        CHECK.due("13: at first", 0, () -> x.voltage(1));
        CHECK.due("13: then", 1, () -> x.voltage(1000000));
        for (int wrong : new int[] {-1, 1000001, MIN, MAX}) {
            CHECK.argument("13: voltage " + wrong, () -> x.voltage(wrong));
        }
        CHECK.due("13: the most; nothing has changed", 1000000, () -> x.voltage(0));
        CHECK.due("13: the least", 0, () -> x.voltage(0));
    }

    // Promise 14
    private static void shortAt() {
        BreakerOrders x = new BreakerOrders();
        x.device(NONE);
        x.device(0);
        x.device(0);
        x.device(2);
        CHECK.due("14: no voltage", 0, () -> x.shortAt(0));
        x.voltage(100);
        x.impedance(2, 51);
        CHECK.due("14: 100000 by 100", 1000, () -> x.shortAt(0));
        CHECK.due("14: 100000 by 200", 500, () -> x.shortAt(1));
        CHECK.due("14: 100000 by 151, down", 662, () -> x.shortAt(2));
        CHECK.due("14: 100000 by 251, down", 398, () -> x.shortAt(3));
        x.impedance(0, 20);
        CHECK.due("14: exactly the most", 5000, () -> x.shortAt(0));
        x.impedance(0, 19);
        CHECK.due("14: more than the most", 5000, () -> x.shortAt(0));
        x.impedance(0, 21);
        CHECK.due("14: below the most", 4761, () -> x.shortAt(0));
        x.impedance(0, 1);
        x.voltage(1000000);
        CHECK.due("14: the greatest", 5000, () -> x.shortAt(0));
        BreakerOrders y = Make.chain(8);
        for (int i = 0; i < 8; i++) {
            y.impedance(i, 10000);
        }
        y.voltage(79);
        CHECK.due("14: 79000 by 80000", 0, () -> y.shortAt(7));
        y.voltage(80);
        CHECK.due("14: 80000 by 80000", 1, () -> y.shortAt(7));
        CHECK.argument("14: no device", () -> y.shortAt(8));
        CHECK.argument("14: no device", () -> y.shortAt(-1));
    }

    // Promise 15
    private static void opens() {
        BreakerOrders x = Make.chain(4);
        x.device(0);
        x.voltage(400);
        x.point(0, 1, 30, 90);
        x.point(1, 1001, 0, 0);
        x.point(2, 1000, 41, 50);
        x.point(3, 1, 40, 40);
        x.point(4, 1, 5, 5);
        CHECK.due("15: 2 is a moment late, 1 never opens: 3 first", 3, () -> x.opens(3, 0));
        CHECK.due("15: then 0", 0, () -> x.opens(3, 1));
        CHECK.due("15: no more", NONE, () -> x.opens(3, 2));
        CHECK.due("15: no more by far", NONE, () -> x.opens(3, MAX));
        CHECK.due("15: behind 4, 4 alone", 4, () -> x.opens(4, 0));
        CHECK.due("15: behind 4, not the one above", NONE, () -> x.opens(4, 1));
        CHECK.due("15: behind 1 there is more current", 1, () -> x.opens(1, 0));
        CHECK.due("15: behind 1, 0 is late", NONE, () -> x.opens(1, 1));
        x.option(2, 100, 1);
        x.option(3, 100, 1);
        x.choose(3, 1);
        CHECK.due("15: at the same time", 3, () -> x.opens(3, 0));
        CHECK.due("15: at the same time", 2, () -> x.opens(3, 1));
        CHECK.due("15: at the same time", 0, () -> x.opens(3, 2));
        CHECK.due("15: no more", NONE, () -> x.opens(3, 3));
        x.impedance(3, 101);
        CHECK.due("15: less current, 2 never opens", 0, () -> x.opens(3, 1));
    }

    /** At current 2: 9 + 2/3 for 0, 9 + 1/2 for 1, 9 + 3/4 for 2. */
    private static void opensExactly() {
        BreakerOrders x = Make.chain(3);
        x.point(0, 1, 10, 10);
        x.point(0, 4, 9, 9);
        x.point(1, 1, 10, 10);
        x.point(1, 3, 9, 9);
        x.point(2, 1, 10, 10);
        x.point(2, 5, 9, 9);
        for (int i = 0; i < 3; i++) {
            x.impedance(i, 1000);
        }
        x.voltage(6);
        CHECK.due("15: the current is 2", 2, () -> x.shortAt(2));
        CHECK.due("15: the quickest alone", 1, () -> x.opens(2, 0));
        CHECK.due("15: the others are parts later", NONE, () -> x.opens(2, 1));
    }

    private static void opensAtNoCurrent() {
        BreakerOrders x = Make.chain(2);
        x.point(0, 1, 0, 0);
        x.point(1, 1, 0, 0);
        x.option(1, 10, 0);
        x.choose(1, 1);
        CHECK.due("15: no current", NONE, () -> x.opens(1, 0));
        x.voltage(1000);
        CHECK.due("15: a current", 0, () -> x.opens(1, 1));
        BreakerOrders y = Make.chain(3);
        y.voltage(1000);
        CHECK.due("15: no points", NONE, () -> y.opens(2, 0));
        y.point(1, 1, 3, 4);
        CHECK.due("15: the middle one alone", 1, () -> y.opens(2, 0));
        CHECK.due("15: the middle one alone", NONE, () -> y.opens(2, 1));
    }

    private static void opensWrongInputs() {
        BreakerOrders x = Make.chain(1);
        CHECK.argument("15: k below 0", () -> x.opens(0, -1));
        CHECK.argument("15: k below 0", () -> x.opens(0, MIN));
        CHECK.argument("15: no device", () -> x.opens(1, 0));
        CHECK.argument("15: no device", () -> x.opens(-1, 0));
        CHECK.due("15: no bound above", NONE, () -> x.opens(0, MAX));
    }
}
