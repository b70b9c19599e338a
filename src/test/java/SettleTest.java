/**
 * The sentence of promise 10, settle, part by part: one test for each boundary that it names. A
 * test's remark quotes its part.
 */
public final class SettleTest {
    private static final Check CHECK = new Check();
    private static final int NONE = BreakerOrders.NONE;

    public static void main(String[] args) {
        noDeviceAtAll();
        oneDeviceAlone();
        allBelowTheSource();
        withoutPoints();
        onlyWithItsUpperOne();
        byExactlyTheMargin();
        theFirstRowOfAll();
        theLastRowOfAll();
        firstByDevice0();
        thenByDevice1();
        andSoOnToTheLast();
        firstOfTwoAlike();
        whateverWasChosen();
        chosenAndTrue();
        falseChangingNothing();
        falseOneShortOfTheLastRow();
        falseThenTrue();
        illegalArgument();
        CHECK.end();
    }

    private static void settles(String what, int margin, BreakerOrders x, int... row) {
        CHECK.due(what, 1, () -> Check.bit(x.settle(margin)));
        rowIs(what, x, row);
    }

    private static void fails(String what, int margin, BreakerOrders x, int... row) {
        CHECK.due(what, 0, () -> Check.bit(x.settle(margin)));
        rowIs(what, x, row);
    }

    private static void rowIs(String what, BreakerOrders x, int... row) {
        for (int i = 0; i < row.length; i++) {
            int number = i;
            CHECK.due(what + ": the option of " + i, row[i], () -> x.chosen(number));
        }
    }

    /** A chain of devices with level times, each with options of these delays behind its option 0. */
    private static BreakerOrders levels(int[] times, int[]... delays) {
        BreakerOrders x = Make.chain(times.length);
        for (int i = 0; i < times.length; i++) {
            x.point(i, 100, times[i], times[i]);
            for (int delay : delays[i]) {
                x.option(i, 100, delay);
            }
        }
        return x;
    }

    /**
     * Eight in a row, in order by 100 with each one's option 3 alone, if the first one has this
     * delay for it at least 700: the last opens too late with its others, the rest too early.
     */
    private static BreakerOrders onlyTheLastRow(int delayOf0) {
        BreakerOrders x = Make.chain(8);
        for (int i = 0; i < 7; i++) {
            int needed = 100 * (7 - i);
            x.point(i, 100, 1000, 1000);
            x.option(i, 100, 1);
            x.option(i, 100, needed - 1);
            x.option(i, 100, i == 0 ? delayOf0 : needed);
        }
        x.point(7, 200, 1000, 1000);
        x.option(7, 90, 0);
        x.option(7, 51, 0);
        x.option(7, 50, 0);
        return x;
    }

    /** Promise 10: "Options for all devices so that each is in order" - there is no device. */
    private static void noDeviceAtAll() {
        BreakerOrders x = new BreakerOrders();
        settles("no device, the least margin", 0, x);
        settles("no device, the most margin", 10000, x);
        CHECK.due("there is none still", 0, () -> x.device(NONE));
    }

    /** Promise 10: "each is in order with its upper one" - one device has none. */
    private static void oneDeviceAlone() {
        BreakerOrders x = Make.chain(1);
        settles("without a point", 10000, x, 0);
        x.point(0, 1, 0, 0);
        settles("with a point", 10000, x, 0);
        Make.chooseNew(x, 0, 100, 5);
        settles("with an option, which was chosen", 10000, x, 0);
    }

    /** Promise 10: "each is in order with its upper one" - eight devices have none. */
    private static void allBelowTheSource() {
        BreakerOrders x = new BreakerOrders();
        for (int i = 0; i < 8; i++) {
            x.device(NONE);
            x.point(i, 1, 0, 100000);
            Make.chooseNew(x, i, 100, 5);
        }
        settles("all eight", 10000, x, 0, 0, 0, 0, 0, 0, 0, 0);
    }

    /** Promise 10: "each is in order with its upper one" - where one of them, or both, never opens. */
    private static void withoutPoints() {
        BreakerOrders x = Make.chain(2);
        x.option(0, 1000, 0);
        settles("neither opens", 10000, x, 0, 0);
        x.point(0, 501, 100000, 100000);
        settles("the upper one opens from 501 on, or behind 5000", 10000, x, 1, 0);
        x.point(1, 501, 0, 0);
        settles("both open", 10000, x, 0, 0);
        BreakerOrders lower = Make.chain(2);
        lower.point(1, 1, 100000, 100000);
        settles("the lower one alone opens", 10000, lower, 0, 0);
    }

    /** Promise 10: "each is in order with its upper one" - not with one beside it or in another tree. */
    private static void onlyWithItsUpperOne() {
        BreakerOrders x = new BreakerOrders();
        int[] uppers = {NONE, 0, 0, NONE, 3};
        int[] times = {500, 100, 400, 450, 80};
        for (int i = 0; i < 5; i++) {
            x.device(uppers[i]);
            x.point(i, 1, times[i], times[i] + 5);
            x.option(i, 100, 3);
        }
        CHECK.due("two beside each other are not in order", 1, () -> x.order(2, 1, 0));
        CHECK.due("two of two trees are not in order", 1, () -> x.order(3, 2, 0));
        settles("each with its own upper one", 10, x, 0, 0, 0, 0, 0);
        settles("the upper one of two goes with both", 98, x, 1, 0, 0, 0, 0);
        fails("by one more with one of them alone", 99, x, 1, 0, 0, 0, 0);
    }

    /** Promise 10: "so that each is in order with its upper one by a margin". */
    private static void byExactlyTheMargin() {
        BreakerOrders x = levels(new int[] {100, 100, 100}, new int[] {10000}, new int[] {5000}, new int[] {});
        settles("by 0 they are", 0, x, 0, 0, 0);
        settles("by 5000 they are with delays", 5000, x, 1, 1, 0);
        fails("by one more they are not", 5001, x, 1, 1, 0);
        fails("by the most they are not", 10000, x, 1, 1, 0);
        BreakerOrders most = levels(new int[] {100, 100}, new int[] {10000}, new int[] {});
        settles("by the most they are", 10000, most, 1, 0);
    }

    /** Promise 10: "of all such rows of options the first" - the first of all. */
    private static void theFirstRowOfAll() {
        BreakerOrders x = Make.full();
        settles("each is in order with its option 0", 800, x, 0, 0, 0, 0, 0, 0, 0, 0);
    }

    /** Promise 10: "of all such rows of options the first" - the last of all is the only one. */
    private static void theLastRowOfAll() {
        BreakerOrders x = onlyTheLastRow(700);
        settles("the last of 65536", 100, x, 3, 3, 3, 3, 3, 3, 3, 3);
        CHECK.due("they are in order", NONE, () -> x.order(7, 6, 100));
        CHECK.due("they are in order", NONE, () -> x.order(1, 0, 100));
    }

    /** Promise 10: "the first, by device 0's option" - a lesser one of 0 goes with a greater one of 1. */
    private static void firstByDevice0() {
        BreakerOrders x = Make.chain(2);
        x.point(0, 100, 1000, 1000);
        x.point(1, 100, 1000, 1000);
        x.point(1, 200, 500, 500);
        x.option(0, 100, 500);
        x.option(1, 70, 0);
        x.option(1, 50, 0);
        x.option(1, 49, 0);
        settles("row 0, 2 is ahead of row 1, 0", 500, x, 0, 2);
        settles("row 0, 0 is ahead of both", 0, x, 0, 0);
        settles("row 1, 1 if 0's first one does not go", 501, x, 1, 1);
    }

    /** Promise 10: "then 1's" - a lesser one of 1 goes with a greater one of 2. */
    private static void thenByDevice1() {
        BreakerOrders x = Make.chain(3);
        x.point(0, 100, 3000, 3000);
        x.point(1, 100, 1000, 1000);
        Make.points(x, 2, new int[] {100, 1000, 1000}, new int[] {200, 500, 500});
        x.option(1, 100, 500);
        x.option(2, 51, 0);
        x.option(2, 60, 0);
        x.option(2, 50, 0);
        settles("row 0, 0, 3 is ahead of row 0, 1, 0", 500, x, 0, 0, 3);
        BreakerOrders y = new BreakerOrders();
        y.device(NONE);
        y.device(NONE);
        y.device(0);
        y.device(1);
        int[] times = {100, 200, 150, 210};
        for (int i = 0; i < 4; i++) {
            y.point(i, 1, times[i], times[i]);
            y.option(i, 100, 40);
            y.option(i, 100, 50);
            y.option(i, 100, 60);
        }
        settles("each tree by itself", 0, y, 2, 1, 0, 0);
    }

    /** Promise 10: "then 1's, and so on" - up to the eighth device's, and back to the first one's. */
    private static void andSoOnToTheLast() {
        int[] times = {8000, 7000, 6000, 5000, 4000, 3000, 2000, 1000};
        BreakerOrders x = Make.chain(8);
        for (int i = 0; i < 8; i++) {
            x.point(i, i == 7 ? 200 : 100, times[i], times[i]);
        }
        x.option(7, 51, 0);
        x.option(7, 50, 0);
        x.option(7, 49, 0);
        settles("the eighth opens early enough by its third alone", 1000, x, 0, 0, 0, 0, 0, 0, 0, 2);
        times[7] = 1001;
        int[] one = {1};
        BreakerOrders y = levels(times, one, one, one, one, one, one, one, one);
        settles("the eighth needs one more of the seventh, and that of the sixth", 1000, y, 1, 1, 1, 1, 1, 1, 1, 0);
        settles("it does not by less", 999, y, 0, 0, 0, 0, 0, 0, 0, 0);
        fails("by more none does", 1001, y, 0, 0, 0, 0, 0, 0, 0, 0);
    }

    /** Promise 10: "of all such rows of options the first" - of two options that are alike. */
    private static void firstOfTwoAlike() {
        BreakerOrders x = levels(new int[] {100, 100}, new int[] {50, 50, 50}, new int[] {0, 0, 0});
        settles("the first of those alike", 50, x, 1, 0);
    }

    /** Promise 10: "of all such rows of options the first" - whichever were chosen, in order or not. */
    private static void whateverWasChosen() {
        BreakerOrders x = levels(new int[] {100, 100}, new int[] {50, 60, 70}, new int[] {10, 20, 30});
        for (int of0 = 0; of0 < 4; of0++) {
            for (int of1 = 0; of1 < 4; of1++) {
                x.choose(0, of0);
                x.choose(1, of1);
                settles("from " + of0 + ", " + of1, 45, x, 1, 0);
            }
        }
    }

    /** Promise 10: "they are chosen, and true" - and nothing else is changed. */
    private static void chosenAndTrue() {
        BreakerOrders settled = Make.full();
        CHECK.due("settle", 1, () -> Check.bit(settled.settle(800)));
        BreakerOrders byHand = Make.full();
        for (int i = 0; i < 8; i++) {
            byHand.choose(i, 0);
        }
        CHECK.compare("all that can be seen", Picture.of(byHand), Picture.of(settled));
    }

    /** Promise 10: "false, changing nothing, if there are none." */
    private static void falseChangingNothing() {
        BreakerOrders x = Make.full();
        fails("by too much", 10000, x, 0, 1, 2, 3, 0, 1, 2, 3);
        CHECK.compare("all that can be seen", Picture.of(Make.full()), Picture.of(x));
        BreakerOrders part = Make.part();
        fails("by too much", 10000, part, 0, 1, 0);
        CHECK.compare("all that can be seen", Picture.of(Make.part()), Picture.of(part));
    }

    /** Promise 10: "false, changing nothing, if there are none." - there is nearly one. */
    private static void falseOneShortOfTheLastRow() {
        BreakerOrders x = onlyTheLastRow(699);
        for (int i = 0; i < 8; i++) {
            x.choose(i, (i + 1) % 4);
        }
        fails("the last of 65536 is one short", 100, x, 1, 2, 3, 0, 1, 2, 3, 0);
    }

    /** Promise 10: "false, changing nothing, if there are none." - nor what a later call answers. */
    private static void falseThenTrue() {
        BreakerOrders x = levels(new int[] {100, 100, 100}, new int[] {20}, new int[] {10}, new int[] {});
        x.choose(0, 1);
        fails("by 11", 11, x, 1, 0, 0);
        fails("by 11 again", 11, x, 1, 0, 0);
        settles("by 10", 10, x, 1, 1, 0);
        settles("by 0", 0, x, 0, 0, 0);
        x.option(0, 100, 22);
        fails("by 11, without an option of 1", 11, x, 0, 0, 0);
        x.option(1, 100, 11);
        settles("by 11, with it", 11, x, 2, 2, 0);
        x.point(2, 101, 101, 101);
        fails("by 11, with a point more", 11, x, 2, 2, 0);
        settles("by 10, with a point more", 10, x, 2, 2, 0);
    }

    /** Promise 10: "Illegal argument." */
    private static void illegalArgument() {
        BreakerOrders empty = new BreakerOrders();
        BreakerOrders x = Make.full();
        for (int wrong : new int[] {-1, 10001, Integer.MIN_VALUE, Integer.MAX_VALUE}) {
            CHECK.argument("no device, margin " + wrong, () -> Check.bit(empty.settle(wrong)));
            CHECK.argument("margin " + wrong, () -> Check.bit(x.settle(wrong)));
        }
        CHECK.compare("nothing is changed", Picture.of(Make.full()), Picture.of(x));
    }
}
