/**
 * The sentences under each heading "Promise n" that name a boundary: one test for each part of
 * such a sentence. A test's remark quotes its sentence. (CallsTest has what holds for all calls,
 * SettleTest has promise 10.)
 */
public final class EdgesTest {
    private static final Check CHECK = new Check();
    private static final int NONE = BreakerOrders.NONE;
    private static final int MIN = Integer.MIN_VALUE;
    private static final int MAX = Integer.MAX_VALUE;

    public static void main(String[] args) {
        noDevices();
        deviceBelowTheSourceOrAnother();
        deviceIllegalArgument();
        deviceThereAre8();
        pointHowManyItHas();
        pointFalseNumbers();
        pointItHas6();
        pointAtTheLastOnesPlace();
        pointBehindIsTheLastOne();
        optionItsNumber();
        optionIllegalArgument();
        optionItHas4();
        chooseWhichOneWas();
        chooseIllegalArgument();
        timeRoundedDown();
        timeMostOrLeast();
        timeNoneIfNever();
        timeIllegalArgument();
        opensFromTheLeast();
        opensFromNoneUpTo5000();
        opensFromIllegalArgument();
        orderNone();
        orderTheLeastCurrent();
        orderAtEveryCurrent();
        orderInTheLastStretch();
        orderAnyTwo();
        orderBothAreOne();
        brokenHowMany();
        brokenEveryNumber();
        brokenAsForOrder();
        chosenTheOption();
        chosenIllegalArgument();
        impedanceWhatItWas();
        impedanceIllegalArgument();
        voltageWhatItWas();
        voltageIllegalArgument();
        shortAtBehindADevice();
        shortAtIllegalArgument();
        opensTheLowestFirst();
        opensNoneSuch();
        opensKBelow0();
        CHECK.end();
    }

    /** Promise 1: "No devices." */
    private static void noDevices() {
        for (Numbers.Given given : Numbers.ofDevices(0)) {
            BreakerOrders x = new BreakerOrders();
            CHECK.argument(given.name() + " 0", () -> given.call().answer(x, 0));
        }
        BreakerOrders x = new BreakerOrders();
        CHECK.due("the first is 0", 0, () -> x.device(NONE));
        BreakerOrders other = new BreakerOrders();
        CHECK.argument("one object's are not another's", () -> other.chosen(0));
    }

    /** Promise 2: "A device below another one (NONE: the source): its number." */
    private static void deviceBelowTheSourceOrAnother() {
        BreakerOrders sources = new BreakerOrders();
        BreakerOrders row = new BreakerOrders();
        BreakerOrders star = new BreakerOrders();
        for (int i = 0; i < 8; i++) {
            int number = i;
            CHECK.due("all below the source", number, () -> sources.device(NONE));
            CHECK.due("each below the one before it", number, () -> row.device(number - 1));
            CHECK.due("all others below the first", number, () -> star.device(number == 0 ? NONE : 0));
        }
        sources.voltage(80);
        row.voltage(80);
        star.voltage(80);
        CHECK.due("7 below the source", 800, () -> sources.shortAt(7));
        CHECK.due("7 below seven others", 100, () -> row.shortAt(7));
        CHECK.due("7 below the first", 400, () -> star.shortAt(7));
    }

    /** Promise 2: "Illegal argument; illegal state: there are 8." - there is no such upper one. */
    private static void deviceIllegalArgument() {
        for (int devices = 0; devices <= 8; devices++) {
            BreakerOrders x = Make.chain(devices);
            for (int wrong : new int[] {devices, devices + 1, -2, MIN, MAX}) {
                CHECK.argument(devices + " devices, below " + wrong, () -> x.device(wrong));
            }
        }
    }

    /** Promise 2: "illegal state: there are 8." */
    private static void deviceThereAre8() {
        BreakerOrders x = Make.chain(7);
        CHECK.due("the eighth", 7, () -> x.device(6));
        CHECK.state("a ninth below the source", () -> x.device(NONE));
        CHECK.state("a ninth below the first", () -> x.device(0));
        CHECK.state("a ninth below the last", () -> x.device(7));
        CHECK.argument("there is no ninth", () -> x.chosen(8));
    }

    /** Promise 3: "A point of a device's curve: how many it has." */
    private static void pointHowManyItHas() {
        BreakerOrders x = Make.chain(2);
        for (int k = 1; k <= 6; k++) {
            int points = k;
            CHECK.due("of 0", points, () -> x.point(0, points, 0, 0));
            CHECK.due("of 1", points, () -> x.point(1, 4994 + points, 0, 0));
        }
    }

    /** Promise 3: "False numbers: illegal argument". */
    private static void pointFalseNumbers() {
        int[][] wrong = {{-1, 1, 0, 0}, {1, 1, 0, 0}, {0, 0, 0, 0}, {0, 5001, 0, 0}, {0, 1, -1, 0}, {0, 1, 0, -1},
            {0, 1, 0, 100001}, {0, 1, 100001, 100001}, {0, 1, 1, 0}, {MAX, MAX, MAX, MAX}};
        BreakerOrders x = Make.chain(1);
        for (int[] w : wrong) {
            String what = w[0] + ", " + w[1] + ", " + w[2] + ", " + w[3];
            CHECK.argument(what, () -> x.point(w[0], w[1], w[2], w[3]));
        }
        CHECK.due("none of them counts", 1, () -> x.point(0, 1, 0, 0));
    }

    /** Promise 3: "illegal state: it has 6". */
    private static void pointItHas6() {
        BreakerOrders x = Make.chain(8);
        for (int k = 1; k <= 5; k++) {
            x.point(7, k, 0, 0);
        }
        CHECK.due("the sixth", 6, () -> x.point(7, 6, 0, 0));
        CHECK.state("a seventh at the next place", () -> x.point(7, 7, 9, 9));
        CHECK.state("a seventh at the last place", () -> x.point(7, 5000, 9, 9));
        CHECK.due("it does not count", 0, () -> x.time(7, 5000, true));
        CHECK.due("another one has none", 1, () -> x.point(6, 7, 9, 9));
    }

    /** Promise 3: "or its last one is at that place or behind it." - at it. */
    private static void pointAtTheLastOnesPlace() {
        BreakerOrders x = Make.chain(1);
        x.point(0, 1, 10, 10);
        CHECK.state("at the first place", () -> x.point(0, 1, 10, 10));
        CHECK.due("one on", 2, () -> x.point(0, 2, 20, 20));
        CHECK.state("at the second one's", () -> x.point(0, 2, 30, 30));
        CHECK.due("the last place", 3, () -> x.point(0, 5000, 20, 20));
        CHECK.state("at the last place", () -> x.point(0, 5000, 30, 30));
        CHECK.due("nothing has changed", 20, () -> x.time(0, 2, true));
        CHECK.due("nothing has changed", 20, () -> x.time(0, 5000, true));
    }

    /** Promise 3: "or its last one is at that place or behind it." - behind it. */
    private static void pointBehindIsTheLastOne() {
        BreakerOrders x = Make.chain(2);
        x.point(0, 10, 10, 10);
        x.point(0, 20, 20, 20);
        CHECK.state("one behind", () -> x.point(0, 19, 30, 30));
        CHECK.state("between the two", () -> x.point(0, 15, 30, 30));
        CHECK.state("at the one before the last", () -> x.point(0, 10, 30, 30));
        CHECK.state("far behind", () -> x.point(0, 1, 30, 30));
        CHECK.due("nothing has changed", 15, () -> x.time(0, 15, true));
        CHECK.due("another device's last one does not count", 1, () -> x.point(1, 1, 30, 30));
    }

    /** Promise 4: "An option more: its number." */
    private static void optionItsNumber() {
        BreakerOrders x = Make.chain(2);
        for (int k = 1; k <= 3; k++) {
            int number = k;
            CHECK.due("of 0; the same once more is another", number, () -> x.option(0, 100, 0));
            CHECK.due("of 1", number, () -> x.option(1, 1000, 10000));
        }
    }

    /** Promise 4: "Illegal argument; illegal state: it has 4." - a number is out of its bounds. */
    private static void optionIllegalArgument() {
        int[][] wrong = {{-1, 100, 0}, {1, 100, 0}, {0, 9, 0}, {0, 1001, 0}, {0, 100, -1}, {0, 100, 10001},
            {0, MIN, MIN}, {0, MAX, MAX}, {MIN, 100, 0}, {MAX, 100, 0}};
        BreakerOrders x = Make.chain(1);
        for (int[] w : wrong) {
            CHECK.argument(w[0] + ", " + w[1] + ", " + w[2], () -> x.option(w[0], w[1], w[2]));
        }
        CHECK.due("none of them counts", 1, () -> x.option(0, 100, 0));
    }

    /** Promise 4: "illegal state: it has 4." */
    private static void optionItHas4() {
        BreakerOrders x = Make.chain(8);
        x.option(7, 10, 0);
        x.option(7, 10, 0);
        CHECK.due("the fourth", 3, () -> x.option(7, 1000, 10000));
        CHECK.state("a fifth", () -> x.option(7, 10, 0));
        CHECK.state("a fifth again", () -> x.option(7, 1000, 10000));
        CHECK.argument("there is no fifth", () -> x.choose(7, 4));
        CHECK.due("another one has one alone", 1, () -> x.option(6, 10, 0));
    }

    /** Promise 5: "An option is chosen: which one was." */
    private static void chooseWhichOneWas() {
        BreakerOrders x = Make.chain(2);
        CHECK.due("the only one again", 0, () -> x.choose(0, 0));
        for (int k = 0; k < 3; k++) {
            x.option(0, 100, 0);
            x.option(1, 100, 0);
        }
        int[] row = {3, 3, 0, 1, 1, 2, 0, 0};
        int was = 0;
        for (int option : row) {
            CHECK.due("choose " + option, was, () -> x.choose(0, option));
            was = option;
        }
        x.choose(0, 3);
        CHECK.due("another one's", 0, () -> x.choose(1, 2));
        CHECK.due("the first one's stands", 3, () -> x.choose(0, 0));
    }

    /** Promise 5: "Illegal argument." An option that is not yet there is none. */
    private static void chooseIllegalArgument() {
        BreakerOrders x = Make.chain(1);
        for (int k = 0; k < 4; k++) {
            int options = k + 1;
            CHECK.argument("one too great", () -> x.choose(0, options));
            CHECK.argument("below 0", () -> x.choose(0, -1));
            CHECK.argument("no such device", () -> x.choose(1, 0));
            CHECK.due("the last there is, which one was", Math.max(0, k - 1), () -> x.choose(0, options - 1));
            if (options < 4) {
                x.option(0, 100, 0);
            }
        }
    }

    /** Promise 6: "A device's time at a current, with its chosen option, rounded down". */
    private static void timeRoundedDown() {
        BreakerOrders x = Make.curve(new int[] {1, 0, 0}, new int[] {1001, 1, 1}, new int[] {2001, 0, 0});
        CHECK.due("0", 0, () -> x.time(0, 1, true));
        CHECK.due("1/1000", 0, () -> x.time(0, 2, true));
        CHECK.due("999/1000", 0, () -> x.time(0, 1000, true));
        CHECK.due("1", 1, () -> x.time(0, 1001, true));
        CHECK.due("1 - 1/1000", 0, () -> x.time(0, 1002, true));
        CHECK.due("1 - 999/1000", 0, () -> x.time(0, 2000, true));
        Make.chooseNew(x, 0, 100, 10000);
        CHECK.due("10000 + 999/1000", 10000, () -> x.time(0, 1000, false));
        CHECK.due("10001", 10001, () -> x.time(0, 1001, false));
        CHECK.due("10001 - 1/1000", 10000, () -> x.time(0, 1002, false));
    }

    /** Promise 6: "rounded down: most or least". */
    private static void timeMostOrLeast() {
        BreakerOrders x = Make.curve(new int[] {1, 10, 20}, new int[] {3, 30, 61}, new int[] {5, 0, 100000});
        CHECK.due("least", 10, () -> x.time(0, 1, false));
        CHECK.due("most", 20, () -> x.time(0, 1, true));
        CHECK.due("least, between", 20, () -> x.time(0, 2, false));
        CHECK.due("most, between: 40 1/2", 40, () -> x.time(0, 2, true));
        CHECK.due("least, at the last", 0, () -> x.time(0, 5, false));
        CHECK.due("most, at the last", 100000, () -> x.time(0, 5, true));
    }

    /** Promise 6: "NONE if it never opens." */
    private static void timeNoneIfNever() {
        BreakerOrders x = Make.chain(1);
        CHECK.due("no point", NONE, () -> x.time(0, 5000, false));
        x.point(0, 5000, 0, 0);
        CHECK.due("ahead of its point", NONE, () -> x.time(0, 4999, false));
        CHECK.due("at it 0 is a time", 0, () -> x.time(0, 5000, false));
        Make.chooseNew(x, 0, 101, 10000);
        CHECK.due("its point is behind 5000", NONE, () -> x.time(0, 5000, true));
        Make.chooseNew(x, 0, 10, 10000);
        CHECK.due("its point is at 500", NONE, () -> x.time(0, 499, true));
        CHECK.due("its point is at 500", 10000, () -> x.time(0, 500, true));
    }

    /** Promise 6: "Illegal argument." */
    private static void timeIllegalArgument() {
        BreakerOrders x = Make.curve(new int[] {1, 0, 0});
        for (int wrong : new int[] {0, 5001, -1, MIN, MAX}) {
            CHECK.argument("current " + wrong, () -> x.time(0, wrong, true));
        }
        for (int wrong : new int[] {1, -1, MIN, MAX}) {
            CHECK.argument("device " + wrong, () -> x.time(wrong, 1, false));
        }
        BreakerOrders never = Make.chain(1);
        CHECK.argument("a current that is none, and it never opens", () -> never.time(0, 0, true));
    }

    /** Promise 7: "The least current at which a device opens, with its chosen option". */
    private static void opensFromTheLeast() {
        BreakerOrders x = Make.curve(new int[] {1, 0, 0}, new int[] {2, 0, 0});
        CHECK.due("place 1", 1, () -> x.opensFrom(0));
        Make.chooseNew(x, 0, 10, 0);
        CHECK.due("0.1", 1, () -> x.opensFrom(0));
        Make.chooseNew(x, 0, 1000, 0);
        CHECK.due("10", 10, () -> x.opensFrom(0));
        Make.chooseNew(x, 0, 101, 0);
        CHECK.due("1.01", 2, () -> x.opensFrom(0));
        x.choose(0, 0);
        CHECK.due("with the chosen one", 1, () -> x.opensFrom(0));
        BreakerOrders y = Make.curve(new int[] {300, 100000, 100000});
        Make.chooseNew(y, 0, 33, 10000);
        CHECK.due("99", 99, () -> y.opensFrom(0));
        CHECK.due("not at the one before", NONE, () -> y.time(0, 98, true));
        Make.chooseNew(y, 0, 34, 0);
        CHECK.due("102", 102, () -> y.opensFrom(0));
        CHECK.due("not at the one before", NONE, () -> y.time(0, 101, true));
    }

    /** Promise 7: "NONE if there is none up to 5000." */
    private static void opensFromNoneUpTo5000() {
        BreakerOrders none = Make.chain(1);
        CHECK.due("no point", NONE, () -> none.opensFrom(0));
        int[][] due = {{5000, 100, 5000}, {4999, 100, 4999}, {500, 1000, 5000}, {501, 1000, NONE}, {3937, 127, 5000},
            {4717, 106, NONE}, {4951, 101, NONE}, {4950, 101, 5000}, {5000, 1000, NONE}, {5000, 10, 500}};
        for (int[] d : due) {
            BreakerOrders x = Make.curve(new int[] {d[0], 0, 0});
            Make.chooseNew(x, 0, d[1], 0);
            CHECK.due("place " + d[0] + " by scale " + d[1], d[2], () -> x.opensFrom(0));
        }
    }

    /** Promise 7: "Illegal argument." */
    private static void opensFromIllegalArgument() {
        BreakerOrders x = Make.chain(7);
        for (int wrong : new int[] {7, 8, -1, MIN, MAX}) {
            CHECK.argument("device " + wrong, () -> x.opensFrom(wrong));
        }
        CHECK.answers("the last device", () -> x.opensFrom(6));
    }

    /** Promise 8: "NONE if they are; else the least current at which they are not." - they are. */
    private static void orderNone() {
        BreakerOrders x = Make.chain(2);
        CHECK.due("neither opens", NONE, () -> x.order(1, 0, 10000));
        x.point(1, 5000, 100000, 100000);
        CHECK.due("the upper one never opens", NONE, () -> x.order(1, 0, 10000));
        // The most times touch the least ones at 100, at 200 and from 300 on, and stay below elsewhere.
        BreakerOrders touching = Make.chain(2);
        Make.points(touching, 0, new int[] {100, 900, 900}, new int[] {200, 700, 700}, new int[] {300, 600, 600});
        Make.points(touching, 1, new int[] {100, 0, 900}, new int[] {150, 0, 700}, new int[] {200, 0, 700},
                new int[] {250, 0, 600}, new int[] {300, 0, 600});
        CHECK.due("touching is in order", NONE, () -> touching.order(1, 0, 0));
        CHECK.due("by a margin it is not", 100, () -> touching.order(1, 0, 1));
    }

    /** Promise 8: "NONE if they are; else the least current at which they are not." - which one. */
    private static void orderTheLeastCurrent() {
        BreakerOrders x = Make.chain(2);
        Make.points(x, 0, new int[] {10, 1000, 1000}, new int[] {20, 0, 0}, new int[] {30, 1000, 1000});
        x.point(1, 1, 0, 1000);
        CHECK.due("right behind a point", 11, () -> x.order(1, 0, 0));
        CHECK.due("at a point", 10, () -> x.order(1, 0, 1));
        BreakerOrders y = Make.chain(2);
        Make.points(y, 0, new int[] {10, 1000, 1000}, new int[] {20, 0, 0}, new int[] {30, 1000, 1000});
        int[][] due = {{0, NONE}, {1, 20}, {100, 20}, {101, 19}, {900, 12}, {901, 11}, {1000, 11}};
        y.point(1, 1, 0, 0);
        for (int[] d : due) {
            CHECK.due("within a falling piece by " + d[0], d[1], () -> y.order(1, 0, d[0]));
        }
        BreakerOrders ends = Make.chain(2);
        ends.point(0, 1, 10, 10);
        Make.points(ends, 1, new int[] {1, 0, 10}, new int[] {4999, 0, 10}, new int[] {5000, 0, 11});
        CHECK.due("the last current", 5000, () -> ends.order(1, 0, 0));
        CHECK.due("the first current", 1, () -> ends.order(1, 0, 1));
    }

    /** Promise 8: "the least current at which they are not." - it can be each one of a long line. */
    private static void orderAtEveryCurrent() {
        for (int first = 1; first <= 5000; first += 500) {
            BreakerOrders x = longLine();
            for (int i = first; i < first + 500; i++) {
                int margin = 5001 - i;
                CHECK.due("by " + margin, i, () -> x.order(1, 0, margin));
            }
        }
    }

    /** An upper one that has 5000 less the current for its least time, above one that has 0. */
    private static BreakerOrders longLine() {
        BreakerOrders x = Make.chain(2);
        Make.points(x, 0, new int[] {1, 4999, 4999}, new int[] {5000, 0, 0});
        x.point(1, 1, 0, 0);
        return x;
    }

    /** Promise 8: "the least current at which they are not." - behind all points of two full curves. */
    private static void orderInTheLastStretch() {
        BreakerOrders x = Make.chain(2);
        for (int k = 1; k <= 6; k++) {
            x.point(0, 200 * k, k == 6 ? 0 : 10000, 10000);
            x.point(1, 200 * k - 100, 0, 50);
        }
        CHECK.due("from the twelfth point on", 1200, () -> x.order(1, 0, 0));
        CHECK.due("from the twelfth point on", 3801, () -> x.broken(1, 0, 0));
        CHECK.due("settle sees it, too", 0, () -> Check.bit(x.settle(0)));
        Make.chooseNew(x, 0, 100, 50);
        CHECK.due("in order, up to 5000", NONE, () -> x.order(1, 0, 0));
        CHECK.due("in order, up to 5000", 0, () -> x.broken(1, 0, 0));
    }

    /** Promise 8: "Whether two devices (any two) are IN ORDER, with their chosen options". */
    private static void orderAnyTwo() {
        BreakerOrders x = new BreakerOrders();
        int[] uppers = {NONE, 0, 0, NONE, 3, 4, 5, 6};
        for (int i = 0; i < 8; i++) {
            x.device(uppers[i]);
            x.point(i, 1, 10 * i, 10 * i);
        }
        for (int lower = 0; lower < 8; lower++) {
            for (int upper = 0; upper < 8; upper++) {
                if (lower != upper) {
                    int l = lower;
                    int u = upper;
                    CHECK.due(lower + " and " + upper, lower < upper ? NONE : 1, () -> x.order(l, u, 10));
                    CHECK.due(lower + " and " + upper, lower < upper ? 0 : 5000, () -> x.broken(l, u, 10));
                }
            }
        }
        Make.chooseNew(x, 0, 100, 1);
        CHECK.due("with the chosen option", 1, () -> x.order(0, 1, 10));
        x.choose(0, 0);
        CHECK.due("with the chosen option", NONE, () -> x.order(0, 1, 10));
    }

    /** Promise 8: "Illegal argument: also if both are one." */
    private static void orderBothAreOne() {
        BreakerOrders x = Make.chain(8);
        for (int i = -1; i <= 8; i++) {
            int number = i;
            CHECK.argument("both are " + number, () -> x.order(number, number, 0));
        }
        CHECK.answers("the nearest two", () -> x.order(7, 6, 0));
        CHECK.argument("no such lower one", () -> x.order(8, 0, 0));
        CHECK.argument("no such upper one", () -> x.order(0, 8, 0));
    }

    /** Promise 9: "How many currents there are at which they are not in order." */
    private static void brokenHowMany() {
        BreakerOrders x = Make.level(500, 400);
        CHECK.due("none", 0, () -> x.broken(1, 0, 100));
        CHECK.due("all", 5000, () -> x.broken(1, 0, 101));
        BreakerOrders y = Make.chain(2);
        Make.points(y, 0, new int[] {10, 1000, 1000}, new int[] {20, 0, 0}, new int[] {30, 1000, 1000},
                new int[] {4980, 1000, 1000}, new int[] {4990, 0, 0}, new int[] {5000, 1000, 1000});
        y.point(1, 1, 0, 0);
        int[][] due = {{0, 0}, {1, 2}, {100, 2}, {101, 6}, {900, 34}, {901, 38}, {1000, 38}, {1001, 4991}};
        for (int[] d : due) {
            CHECK.due("two dents, by " + d[0], d[1], () -> y.broken(1, 0, d[0]));
        }
        BreakerOrders later = Make.chain(2);
        later.point(0, 1, 100000, 100000);
        later.point(1, 5000, 0, 0);
        CHECK.due("all but the last", 4999, () -> later.broken(1, 0, 10000));
        CHECK.due("the upper one opens at the last alone", 1, () -> later.broken(0, 1, 0));
    }

    /** Promise 9: "How many currents there are at which they are not in order." - from none to all. */
    private static void brokenEveryNumber() {
        CHECK.due("none", 0, () -> longLine().broken(1, 0, 0));
        for (int first = 1; first <= 5000; first += 500) {
            BreakerOrders x = longLine();
            for (int i = first; i < first + 500; i++) {
                int margin = i;
                CHECK.due("by " + margin, i, () -> x.broken(1, 0, margin));
            }
        }
        CHECK.due("no more than all", 5000, () -> longLine().broken(1, 0, 5001));
    }

    /** Promise 9: "Illegal argument: as for order()." */
    private static void brokenAsForOrder() {
        BreakerOrders x = Make.chain(8);
        for (int i = -1; i <= 8; i++) {
            int number = i;
            CHECK.argument("both are " + number, () -> x.broken(number, number, 0));
        }
        CHECK.answers("the nearest two", () -> x.broken(7, 6, 0));
        CHECK.argument("no such lower one", () -> x.broken(8, 0, 0));
        CHECK.argument("no such upper one", () -> x.broken(0, 8, 0));
        CHECK.argument("a margin too little", () -> x.broken(1, 0, -1));
        CHECK.argument("a margin too great", () -> x.broken(1, 0, 10001));
    }

    /** Promise 11: "The option that a device has chosen." */
    private static void chosenTheOption() {
        BreakerOrders x = Make.full();
        for (int i = 0; i < 8; i++) {
            int number = i;
            CHECK.due("of " + number, number % 4, () -> x.chosen(number));
        }
        Check.told(() -> x.choose(7, 4));
        CHECK.due("a refused one is not chosen", 3, () -> x.chosen(7));
    }

    /** Promise 11: "Illegal argument." */
    private static void chosenIllegalArgument() {
        BreakerOrders x = Make.chain(7);
        for (int wrong : new int[] {7, 8, -1, MIN, MAX}) {
            CHECK.argument("device " + wrong, () -> x.chosen(wrong));
        }
        CHECK.due("the last device", 0, () -> x.chosen(6));
    }

    /** Promise 12: "A device's impedance: what it was." */
    private static void impedanceWhatItWas() {
        BreakerOrders x = Make.chain(8);
        CHECK.due("at first", 100, () -> x.impedance(7, 1));
        CHECK.due("the same again", 1, () -> x.impedance(7, 1));
        CHECK.due("the greatest", 1, () -> x.impedance(7, 10000));
        CHECK.argument("0", () -> x.impedance(7, 0));
        CHECK.argument("10001", () -> x.impedance(7, 10001));
        CHECK.due("a refused one was none", 10000, () -> x.impedance(7, 5));
        CHECK.due("another one's", 100, () -> x.impedance(6, 5));
    }

    /** Promise 12: "Illegal argument." */
    private static void impedanceIllegalArgument() {
        BreakerOrders x = Make.chain(1);
        for (int wrong : new int[] {0, 10001, -1, MIN, MAX}) {
            CHECK.argument("impedance " + wrong, () -> x.impedance(0, wrong));
        }
        for (int wrong : new int[] {1, 8, -1, MIN, MAX}) {
            CHECK.argument("device " + wrong, () -> x.impedance(wrong, 1));
        }
        CHECK.due("none of them counts", 100, () -> x.impedance(0, 1));
    }

    /** Promise 13: "The source's voltage: what it was." */
    private static void voltageWhatItWas() {
        BreakerOrders x = new BreakerOrders();
        CHECK.due("at first", 0, () -> x.voltage(0));
        CHECK.due("the same again", 0, () -> x.voltage(1000000));
        CHECK.argument("-1", () -> x.voltage(-1));
        CHECK.argument("1000001", () -> x.voltage(1000001));
        CHECK.due("a refused one was none", 1000000, () -> x.voltage(1));
        CHECK.due("then", 1, () -> x.voltage(0));
    }

    /** Promise 13: "Illegal argument." */
    private static void voltageIllegalArgument() {
        BreakerOrders x = new BreakerOrders();
        for (int wrong : new int[] {-1, 1000001, MIN, MAX}) {
            CHECK.argument("voltage " + wrong, () -> x.voltage(wrong));
        }
        CHECK.due("none of them counts", 0, () -> x.voltage(1));
    }

    /** Promise 14: "The short current behind a device." */
    private static void shortAtBehindADevice() {
        BreakerOrders x = Make.chain(8);
        CHECK.due("no voltage", 0, () -> x.shortAt(7));
        x.voltage(1000000);
        CHECK.due("the most", 5000, () -> x.shortAt(7));
        x.voltage(4);
        CHECK.due("behind the first", 40, () -> x.shortAt(0));
        CHECK.due("behind the last", 5, () -> x.shortAt(7));
    }

    /** Promise 14: "Illegal argument." */
    private static void shortAtIllegalArgument() {
        BreakerOrders x = Make.chain(7);
        for (int wrong : new int[] {7, 8, -1, MIN, MAX}) {
            CHECK.argument("device " + wrong, () -> x.shortAt(wrong));
        }
        CHECK.due("the last device", 0, () -> x.shortAt(6));
    }

    /** Promise 15: "the k-th that opens, the lowest first (that device is the lowest)". */
    private static void opensTheLowestFirst() {
        BreakerOrders x = Make.chain(8);
        for (int i = 0; i < 8; i++) {
            x.point(i, 1, i, 100);
        }
        x.voltage(1000);
        for (int lowest = 0; lowest < 8; lowest++) {
            for (int k = 0; k <= lowest; k++) {
                int number = lowest;
                int nth = k;
                CHECK.due("behind " + lowest + " the " + k + "th", lowest - k, () -> x.opens(number, nth));
            }
        }
    }

    /** Promise 15: "NONE if there is none such." */
    private static void opensNoneSuch() {
        BreakerOrders x = Make.chain(8);
        for (int i = 0; i < 8; i++) {
            x.point(i, 1, i, 100);
        }
        CHECK.due("no current", NONE, () -> x.opens(7, 0));
        x.voltage(1000);
        CHECK.due("the last of eight", 0, () -> x.opens(7, 7));
        CHECK.due("one behind", NONE, () -> x.opens(7, 8));
        CHECK.due("far behind", NONE, () -> x.opens(7, MAX));
        CHECK.due("one behind the only one", NONE, () -> x.opens(0, 1));
        BreakerOrders none = Make.chain(1);
        none.voltage(1000);
        CHECK.due("without a point", NONE, () -> none.opens(0, 0));
    }

    /** Promise 15: "Illegal argument: also if k is below 0." */
    private static void opensKBelow0() {
        BreakerOrders x = Make.curve(new int[] {1, 0, 0});
        x.voltage(1000);
        CHECK.argument("one below", () -> x.opens(0, -1));
        CHECK.argument("far below", () -> x.opens(0, Integer.MIN_VALUE));
        CHECK.due("not below", 0, () -> x.opens(0, 0));
        CHECK.argument("no such device", () -> x.opens(1, 0));
        CHECK.argument("no such device", () -> x.opens(-1, 0));
        CHECK.argument("neither", () -> x.opens(1, -1));
    }
}
