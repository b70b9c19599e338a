/**
 * What "Terms" says of times, of order, of short currents and of faults, one test for each part of
 * a sentence that names a boundary. A test's remark quotes its sentence.
 */
public final class TermsTest {
    private static final Check CHECK = new Check();
    private static final int NONE = BreakerOrders.NONE;

    public static void main(String[] args) {
        xIsExact();
        neverAheadOfTheFirstPoint();
        neverWithoutAPoint();
        atTheLastPointOrBehindIt();
        betweenTwoPoints();
        onTheLineOfTheLeastTimes();
        onTheLineOfTheMostTimes();
        onTheLineOfGreatestNumbers();
        delayComesToBoth();
        timesAreExactFractions();
        timesAreExactBeyondDoubles();
        lowerOpensWhereUpperDoes();
        mostAndMarginAreNotMore();
        mostAndMarginOfGreatestNumbers();
        shortCurrentIsBySum();
        shortCurrentIsRoundedDown();
        shortCurrentIs5000AtMost();
        openThatOpenAtAll();
        openOnItsWayAlone();
        openWhoseLeastIsNotMore();
        openByTheLeastOfTheirMost();
        CHECK.end();
    }

    /** Terms: "x is 100 I / s, exactly." */
    private static void xIsExact() {
        BreakerOrders x = Make.curve(new int[] {100, 0, 0}, new int[] {200, 300, 300});
        Make.chooseNew(x, 0, 300, 0);
        CHECK.due("x = 99 2/3 is less than 100", NONE, () -> x.time(0, 299, true));
        CHECK.due("x = 100", 0, () -> x.time(0, 300, true));
        CHECK.due("x = 100 1/3", 1, () -> x.time(0, 301, true));
        CHECK.due("x = 100 2/3", 2, () -> x.time(0, 302, true));
        CHECK.due("x = 199 2/3", 299, () -> x.time(0, 599, true));
        CHECK.due("x = 200", 300, () -> x.time(0, 600, true));
        Make.chooseNew(x, 0, 999, 0);
        CHECK.due("x = 99 + 899/999", NONE, () -> x.time(0, 998, true));
        CHECK.due("x = 100", 0, () -> x.time(0, 999, true));
        CHECK.due("x = 100 + 1000/999", 3, () -> x.time(0, 1009, true));
        Make.chooseNew(x, 0, 11, 0);
        CHECK.due("x = 90 + 10/11", NONE, () -> x.time(0, 10, true));
        CHECK.due("x = 100", 0, () -> x.time(0, 11, true));
        CHECK.due("x = 109 + 1/11", 27, () -> x.time(0, 12, true));
    }

    /** Terms: "If x is less than the place of its first point (or there is none) it NEVER opens." */
    private static void neverAheadOfTheFirstPoint() {
        BreakerOrders x = Make.chain(2);
        Make.points(x, 0, new int[] {100, 5, 5}, new int[] {200, 5, 5});
        CHECK.due("far ahead, the least", NONE, () -> x.time(0, 1, false));
        CHECK.due("one ahead, the least", NONE, () -> x.time(0, 99, false));
        CHECK.due("one ahead, the most", NONE, () -> x.time(0, 99, true));
        CHECK.due("at it", 5, () -> x.time(0, 100, false));
        CHECK.due("from it on", 100, () -> x.opensFrom(0));
        CHECK.due("as the upper one, from it on", 4901, () -> x.broken(1, 0, 0));
        Make.shortBehindOne(x, 0, 99);
        CHECK.due("in a fault, one ahead", NONE, () -> x.opens(0, 0));
        x.voltage(100);
        CHECK.due("in a fault, at it", 0, () -> x.opens(0, 0));
    }

    /** Terms: "If x is less than the place of its first point (or there is none) it NEVER opens." */
    private static void neverWithoutAPoint() {
        BreakerOrders x = Make.chain(2);
        Make.chooseNew(x, 1, 10, 10000);
        x.point(0, 1, 100000, 100000);
        CHECK.due("the least", NONE, () -> x.time(1, 5000, false));
        CHECK.due("the most", NONE, () -> x.time(1, 1, true));
        CHECK.due("from none on", NONE, () -> x.opensFrom(1));
        CHECK.due("as the lower one, broken at all", 5000, () -> x.broken(1, 0, 0));
        CHECK.due("as the lower one, from 1 on", 1, () -> x.order(1, 0, 0));
        CHECK.due("as the upper one, in order", NONE, () -> x.order(0, 1, 10000));
        x.voltage(1000000);
        CHECK.due("in a fault, only the one above", 0, () -> x.opens(1, 0));
        CHECK.due("in a fault, no other", NONE, () -> x.opens(1, 1));
    }

    /** Terms: "If x is the last point's place or more, the times are that point's". */
    private static void atTheLastPointOrBehindIt() {
        BreakerOrders x = Make.curve(new int[] {10, 5, 6});
        CHECK.due("the only point is the first", NONE, () -> x.time(0, 9, false));
        CHECK.due("the only point, at it", 5, () -> x.time(0, 10, false));
        CHECK.due("the only point, behind it", 6, () -> x.time(0, 11, true));
        x.point(0, 20, 50, 60);
        CHECK.due("at it", 50, () -> x.time(0, 20, false));
        CHECK.due("at it", 60, () -> x.time(0, 20, true));
        CHECK.due("one behind", 50, () -> x.time(0, 21, false));
        CHECK.due("one behind", 60, () -> x.time(0, 21, true));
        CHECK.due("far behind", 50, () -> x.time(0, 5000, false));
        CHECK.due("one ahead is not at it", 45, () -> x.time(0, 19, false));
        Make.chooseNew(x, 0, 1000, 0);
        CHECK.due("x = 19.9", 49, () -> x.time(0, 199, false));
        CHECK.due("x = 20", 50, () -> x.time(0, 200, false));
        CHECK.due("x = 20.1", 50, () -> x.time(0, 201, false));
        Make.chooseNew(x, 0, 10, 0);
        CHECK.due("x = 10", 5, () -> x.time(0, 1, false));
        CHECK.due("x = 20", 50, () -> x.time(0, 2, false));
        CHECK.due("x = 50000", 60, () -> x.time(0, 5000, true));
    }

    /** Terms: "between two points p and n (p's place not above x, n's above it), they are on the line". */
    private static void betweenTwoPoints() {
        BreakerOrders x = Make.curve(new int[] {10, 0, 0}, new int[] {11, 100, 200},
                new int[] {12, 50, 50}, new int[] {16, 90, 450});
        CHECK.due("at the first", 0, () -> x.time(0, 10, true));
        CHECK.due("at the second, one place on", 200, () -> x.time(0, 11, true));
        CHECK.due("at the third, one place on", 50, () -> x.time(0, 12, true));
        CHECK.due("one behind the third", 150, () -> x.time(0, 13, true));
        CHECK.due("one ahead of the fourth", 350, () -> x.time(0, 15, true));
        CHECK.due("at the fourth", 450, () -> x.time(0, 16, true));
        Make.chooseNew(x, 0, 1000, 0);
        CHECK.due("x = 10.1", 10, () -> x.time(0, 101, false));
        CHECK.due("x = 10.9", 90, () -> x.time(0, 109, false));
        CHECK.due("x = 11", 100, () -> x.time(0, 110, false));
        CHECK.due("x = 11.1", 95, () -> x.time(0, 111, false));
        CHECK.due("x = 11.9", 55, () -> x.time(0, 119, false));
        CHECK.due("x = 12", 50, () -> x.time(0, 120, false));
        CHECK.due("x = 12.1", 51, () -> x.time(0, 121, false));
    }

    /** Terms: "of the least times t + (u - t) * (x - p's place) / (n's place - p's place)". */
    private static void onTheLineOfTheLeastTimes() {
        BreakerOrders x = Make.curve(new int[] {10, 0, 500}, new int[] {13, 100, 500},
                new int[] {16, 0, 500}, new int[] {19, 0, 500}, new int[] {22, 1, 500});
        int[] due = {0, 33, 66, 100, 66, 33, 0, 0, 0, 0, 0, 0, 1, 1};
        for (int i = 0; i < due.length; i++) {
            int behind = i;
            CHECK.due("rising, falling, level: least at " + (10 + i), due[behind], () -> x.time(0, 10 + behind, false));
            CHECK.due("the most stays", 500, () -> x.time(0, 10 + behind, true));
        }
    }

    /** Terms: "t and u being those of p and n; of the most ones likewise." */
    private static void onTheLineOfTheMostTimes() {
        BreakerOrders x = Make.curve(new int[] {10, 0, 0}, new int[] {13, 0, 100},
                new int[] {16, 0, 0}, new int[] {19, 0, 0}, new int[] {22, 0, 1});
        int[] due = {0, 33, 66, 100, 66, 33, 0, 0, 0, 0, 0, 0, 1, 1};
        for (int i = 0; i < due.length; i++) {
            int behind = i;
            CHECK.due("rising, falling, level: most at " + (10 + i), due[behind], () -> x.time(0, 10 + behind, true));
            CHECK.due("the least stays", 0, () -> x.time(0, 10 + behind, false));
        }
    }

    /** Terms: "they are on the line between" - where an int, or a product of two, would wrap around. */
    private static void onTheLineOfGreatestNumbers() {
        BreakerOrders x = Make.curve(new int[] {1, 0, 100000}, new int[] {5000, 100000, 100000});
        CHECK.due("100000 * 1/4999", 20, () -> x.time(0, 2, false));
        CHECK.due("100000 * 2499/4999", 49989, () -> x.time(0, 2500, false));
        CHECK.due("100000 * 4998/4999", 99979, () -> x.time(0, 4999, false));
        CHECK.due("level at the most", 100000, () -> x.time(0, 2500, true));
        Make.chooseNew(x, 0, 1000, 10000);
        CHECK.due("x = 1", 10000, () -> x.time(0, 10, false));
        CHECK.due("x = 500: 10000 + 100000 * 499/4999", 19981, () -> x.time(0, 5000, false));
        CHECK.due("level at the most, delayed", 110000, () -> x.time(0, 5000, true));
        Make.chooseNew(x, 0, 10, 10000);
        CHECK.due("x = 4990: 10000 + 100000 * 4989/4999", 109799, () -> x.time(0, 499, false));
        BreakerOrders falling = Make.curve(new int[] {1, 100000, 100000}, new int[] {5000, 0, 0});
        CHECK.due("100000 * 2500/4999", 50010, () -> falling.time(0, 2500, false));
        CHECK.due("100000 * 1/4999", 20, () -> falling.time(0, 4999, true));
        CHECK.due("down to 0", 0, () -> falling.time(0, 5000, true));
    }

    /** Terms: "d comes to both." */
    private static void delayComesToBoth() {
        BreakerOrders x = Make.curve(new int[] {10, 20, 30}, new int[] {12, 40, 60});
        Make.chooseNew(x, 0, 100, 7);
        CHECK.due("to the least, at the first", 27, () -> x.time(0, 10, false));
        CHECK.due("to the most, at the first", 37, () -> x.time(0, 10, true));
        CHECK.due("to the least, between", 37, () -> x.time(0, 11, false));
        CHECK.due("to the most, between", 52, () -> x.time(0, 11, true));
        CHECK.due("to the least, behind the last", 47, () -> x.time(0, 5000, false));
        CHECK.due("to the most, behind the last", 67, () -> x.time(0, 5000, true));
        Make.chooseNew(x, 0, 100, 10000);
        CHECK.due("where it never opens nothing comes", NONE, () -> x.time(0, 9, false));
        CHECK.due("where it never opens nothing comes", NONE, () -> x.time(0, 9, true));
    }

    /** Terms: "They are exact fractions." At current 2 one has 1/4998, the other 1/4999. */
    private static void timesAreExactFractions() {
        BreakerOrders x = Make.chain(2);
        Make.points(x, 0, new int[] {1, 0, 0}, new int[] {5000, 1, 1});
        Make.points(x, 1, new int[] {1, 0, 0}, new int[] {4999, 1, 1});
        CHECK.due("rounded down both are 0", 0, () -> x.time(0, 2, true) + x.time(1, 2, true));
        CHECK.due("later by 1 / (4998 * 4999)", 2, () -> x.order(1, 0, 0));
        CHECK.due("later from 2 up to 4999", 4998, () -> x.broken(1, 0, 0));
        CHECK.due("settle sees it, too", 0, () -> Check.bit(x.settle(0)));
        CHECK.due("the other way round", NONE, () -> x.order(0, 1, 0));
        x.impedance(0, 500);
        x.impedance(1, 500);
        x.voltage(2);
        CHECK.due("in a fault at 2", 0, () -> x.opens(1, 0));
        CHECK.due("in a fault at 2 no other", NONE, () -> x.opens(1, 1));
        x.voltage(1);
        CHECK.due("in a fault at 1 both are alike", 0, () -> x.opens(1, 1));
    }

    /**
     * Terms: "They are exact fractions." At current 2247 the lower one has 98922.689.., later than
     * the upper one by less than 4e-13, which no double tells there; at 2248 it is the earlier one.
     */
    private static void timesAreExactBeyondDoubles() {
        BreakerOrders x = Make.chain(2);
        Make.points(x, 0, new int[] {1, 98941, 98941}, new int[] {4994, 98536, 98536});
        Make.points(x, 1, new int[] {1, 100000, 100000}, new int[] {5000, 75998, 75998});
        Make.chooseNew(x, 0, 991, 0);
        Make.chooseNew(x, 1, 997, 0);
        CHECK.due("rounded down they are alike", 98922, () -> x.time(0, 2247, true));
        CHECK.due("rounded down they are alike", 98922, () -> x.time(1, 2247, true));
        CHECK.due("later from 10 up to 2247", 2238, () -> x.broken(1, 0, 0));
        CHECK.due("the other way round from 2248 on", 2248, () -> x.order(0, 1, 0));
        x.impedance(0, 500);
        x.impedance(1, 500);
        x.voltage(2247);
        CHECK.due("in a fault", 0, () -> x.opens(1, 0));
        CHECK.due("in a fault no other", NONE, () -> x.opens(1, 1));
    }

    /** Terms: "if at each current at which the upper one opens the lower one does, too". */
    private static void lowerOpensWhereUpperDoes() {
        BreakerOrders x = Make.chain(2);
        x.point(0, 100, 500, 500);
        x.point(1, 100, 0, 0);
        CHECK.due("from the same current on", NONE, () -> x.order(1, 0, 0));
        x.option(1, 99, 0);
        x.option(1, 101, 0);
        x.choose(1, 1);
        CHECK.due("the lower one from one less on", NONE, () -> x.order(1, 0, 0));
        x.choose(1, 2);
        CHECK.due("the lower one from one more on", 100, () -> x.order(1, 0, 0));
        CHECK.due("at that current alone", 1, () -> x.broken(1, 0, 0));
        CHECK.due("where the upper one does not it need not", 101, () -> x.order(0, 1, 0));
        BreakerOrders never = Make.chain(2);
        never.point(0, 501, 500, 500);
        Make.chooseNew(never, 0, 1000, 0);
        CHECK.due("the upper one opens at no current", NONE, () -> never.order(1, 0, 0));
    }

    /** Terms: "its most time and the margin together are not more than the upper one's least time." */
    private static void mostAndMarginAreNotMore() {
        BreakerOrders x = Make.level(500, 400);
        CHECK.due("less", NONE, () -> x.order(1, 0, 99));
        CHECK.due("not more", NONE, () -> x.order(1, 0, 100));
        CHECK.due("not more", 0, () -> x.broken(1, 0, 100));
        CHECK.due("more", 1, () -> x.order(1, 0, 101));
        CHECK.due("more", 5000, () -> x.broken(1, 0, 101));
        BreakerOrders alike = Make.level(0, 0);
        CHECK.due("0 and 0", NONE, () -> alike.order(1, 0, 0));
        CHECK.due("0 and 1", 1, () -> alike.order(1, 0, 1));
        BreakerOrders most = Make.level(100000, 100000);
        Make.chooseNew(most, 0, 100, 10000);
        CHECK.due("the greatest of all", NONE, () -> most.order(1, 0, 10000));
        Make.chooseNew(most, 0, 100, 9999);
        CHECK.due("one less", 1, () -> most.order(1, 0, 10000));
        // At current 4 the upper one has 10 - 1/3, the lower one 5 - 1/3, and at 3 each has 1/6 more.
        BreakerOrders part = Make.chain(2);
        Make.points(part, 0, new int[] {2, 10, 10}, new int[] {8, 9, 9});
        Make.points(part, 1, new int[] {2, 5, 5}, new int[] {8, 4, 4});
        CHECK.due("not more, in sixths", NONE, () -> part.order(1, 0, 5));
        part.point(0, 9, 8, 8);
        CHECK.due("more, in sixths, behind 8", 9, () -> part.order(1, 0, 5));
    }

    /** Terms: "are not more than the upper one's least time." - where an int would wrap around. */
    private static void mostAndMarginOfGreatestNumbers() {
        BreakerOrders x = Make.chain(2);
        Make.points(x, 0, new int[] {1, 0, 0}, new int[] {5000, 100000, 100000});
        Make.points(x, 1, new int[] {1, 0, 0}, new int[] {5000, 100000, 100000});
        Make.chooseNew(x, 1, 1000, 0);
        Make.chooseNew(x, 0, 1000, 10000);
        CHECK.due("not more", NONE, () -> x.order(1, 0, 10000));
        Make.chooseNew(x, 0, 1000, 9999);
        CHECK.due("more by 1, from 10 on", 10, () -> x.order(1, 0, 10000));
        CHECK.due("more by 1, from 10 on", 4991, () -> x.broken(1, 0, 10000));
        Make.chooseNew(x, 0, 999, 9999);
        CHECK.due("more by less and less, up to 499", 490, () -> x.broken(1, 0, 10000));
    }

    /** Terms: "1000 times the voltage by the sum of the impedances of it and of all those above it". */
    private static void shortCurrentIsBySum() {
        BreakerOrders x = new BreakerOrders();
        x.device(NONE);
        x.device(0);
        x.device(0);
        x.device(1);
        x.device(NONE);
        int[] impedances = {1, 20, 300, 4000, 50};
        for (int i = 0; i < 5; i++) {
            x.impedance(i, impedances[i]);
        }
        x.voltage(5);
        CHECK.due("of 0 alone: 5000 by 1", 5000, () -> x.shortAt(0));
        CHECK.due("of 1 and 0: 5000 by 21", 238, () -> x.shortAt(1));
        CHECK.due("of 2 and 0: 5000 by 301", 16, () -> x.shortAt(2));
        CHECK.due("of 3, 1 and 0: 5000 by 4021", 1, () -> x.shortAt(3));
        CHECK.due("of 4 alone: 5000 by 50", 100, () -> x.shortAt(4));
        BreakerOrders all = Make.chain(8);
        for (int i = 0; i < 8; i++) {
            all.impedance(i, 10000);
        }
        all.voltage(240);
        CHECK.due("of all eight: 240000 by 80000", 3, () -> all.shortAt(7));
        CHECK.due("of seven: 240000 by 70000", 3, () -> all.shortAt(6));
        CHECK.due("of one: 240000 by 10000", 24, () -> all.shortAt(0));
    }

    /** Terms: "rounded down, 5000 at most." - the rounding. */
    private static void shortCurrentIsRoundedDown() {
        BreakerOrders x = Make.chain(1);
        x.impedance(0, 3);
        x.voltage(1);
        CHECK.due("333 1/3", 333, () -> x.shortAt(0));
        x.voltage(2);
        CHECK.due("666 2/3", 666, () -> x.shortAt(0));
        x.voltage(3);
        CHECK.due("1000", 1000, () -> x.shortAt(0));
        x.impedance(0, 1001);
        x.voltage(1);
        CHECK.due("1000/1001", 0, () -> x.shortAt(0));
        x.impedance(0, 1000);
        CHECK.due("1", 1, () -> x.shortAt(0));
        x.impedance(0, 501);
        CHECK.due("1 499/501", 1, () -> x.shortAt(0));
    }

    /** Terms: "rounded down, 5000 at most." - the bound. */
    private static void shortCurrentIs5000AtMost() {
        BreakerOrders x = Make.chain(8);
        for (int i = 0; i < 8; i++) {
            x.impedance(i, 10000);
        }
        int[][] due = {{399984, 4999}, {399999, 4999}, {400000, 5000}, {400001, 5000}, {400080, 5000}, {1000000, 5000}};
        for (int[] d : due) {
            x.voltage(d[0]);
            CHECK.due("voltage " + d[0] + " by 80000", d[1], () -> x.shortAt(7));
        }
        BreakerOrders least = Make.chain(1);
        least.impedance(0, 1);
        int[][] dueOfOne = {{0, 0}, {1, 1000}, {4, 4000}, {5, 5000}, {6, 5000}, {1000000, 5000}};
        for (int[] d : dueOfOne) {
            least.voltage(d[0]);
            CHECK.due("voltage " + d[0] + " by 1", d[1], () -> least.shortAt(0));
        }
        least.point(0, 5000, 1, 1);
        CHECK.due("in a fault it counts as 5000", 0, () -> least.opens(0, 0));
        Make.chooseNew(least, 0, 101, 0);
        CHECK.due("in a fault it is not more", NONE, () -> least.opens(0, 0));
    }

    /** Terms: "OPEN that open at all at this current" - at, ahead of and behind the first point. */
    private static void openThatOpenAtAll() {
        BreakerOrders x = Make.chain(3);
        x.point(0, 1000, 5, 5);
        x.point(1, 1001, 5, 5);
        x.point(2, 999, 5, 5);
        x.voltage(300);
        CHECK.due("the current is 1000", 1000, () -> x.shortAt(2));
        CHECK.due("behind its first point", 2, () -> x.opens(2, 0));
        CHECK.due("at its first point; not the one ahead of it", 0, () -> x.opens(2, 1));
        CHECK.due("no other", NONE, () -> x.opens(2, 2));
        x.voltage(0);
        CHECK.due("at no current none", NONE, () -> x.opens(2, 0));
        BreakerOrders none = Make.chain(8);
        none.voltage(1000000);
        CHECK.due("none without points", NONE, () -> none.opens(7, 0));
    }

    /** Terms: "those on its way (it and all above it) OPEN" - and none beside it or below it. */
    private static void openOnItsWayAlone() {
        BreakerOrders x = new BreakerOrders();
        int[] uppers = {NONE, 0, 0, 1, NONE, 3, 2, 1};
        for (int i = 0; i < 8; i++) {
            x.device(uppers[i]);
            x.point(i, 1, 0, 9);
        }
        x.voltage(1000);
        int[][] ways = {{0}, {1, 0}, {2, 0}, {3, 1, 0}, {4}, {5, 3, 1, 0}, {6, 2, 0}, {7, 1, 0}};
        for (int i = 0; i < 8; i++) {
            int number = i;
            for (int k = 0; k <= 4; k++) {
                int nth = k;
                long due = k < ways[i].length ? ways[i][k] : NONE;
                CHECK.due("behind " + i + " the " + k + "th", due, () -> x.opens(number, nth));
            }
        }
    }

    /** Terms: "whose least time is not more than the least of their most times." */
    private static void openWhoseLeastIsNotMore() {
        BreakerOrders x = Make.chain(2);
        x.point(0, 1, 40, 90);
        x.point(1, 1, 30, 40);
        x.option(0, 100, 1);
        x.option(1, 100, 60);
        x.option(1, 100, 61);
        x.voltage(1000);
        CHECK.due("the lower one", 1, () -> x.opens(1, 0));
        CHECK.due("not more", 0, () -> x.opens(1, 1));
        x.choose(0, 1);
        CHECK.due("the lower one", 1, () -> x.opens(1, 0));
        CHECK.due("one more", NONE, () -> x.opens(1, 1));
        x.choose(0, 0);
        x.choose(1, 1);
        CHECK.due("the lower one is the later one, not more", 1, () -> x.opens(1, 0));
        CHECK.due("and the upper one", 0, () -> x.opens(1, 1));
        x.choose(1, 2);
        CHECK.due("the lower one is the later one, one more", 0, () -> x.opens(1, 0));
        CHECK.due("and no other", NONE, () -> x.opens(1, 1));
    }

    /** Terms: "whose least time is not more than the least of their most times." - of those that open. */
    private static void openByTheLeastOfTheirMost() {
        BreakerOrders x = Make.chain(4);
        x.point(0, 1, 50, 80);
        x.point(1, 4999, 0, 0);
        x.point(2, 1, 60, 70);
        x.point(3, 1, 70, 90);
        x.voltage(1000);
        x.impedance(0, 1);
        CHECK.due("the current is too little for 1", 3322, () -> x.shortAt(3));
        CHECK.due("one that never opens has no most time", 3, () -> x.opens(3, 0));
        CHECK.due("the least is 2's", 2, () -> x.opens(3, 1));
        CHECK.due("and 0 opens", 0, () -> x.opens(3, 2));
        CHECK.due("no other", NONE, () -> x.opens(3, 3));
        Make.chooseNew(x, 3, 100, 1);
        CHECK.due("not more than 0's most, but than 2's", 2, () -> x.opens(3, 0));
        CHECK.due("and 0 opens", 0, () -> x.opens(3, 1));
        x.voltage(1000000);
        CHECK.due("now it opens, alone", 1, () -> x.opens(3, 0));
        CHECK.due("no other", NONE, () -> x.opens(3, 1));
        CHECK.due("one alone has its own most time", 0, () -> x.opens(0, 0));
    }
}
