/** The objects that tests begin with. */
final class Make {
    private Make() {
    }

    /** Devices in a row, each below the one before it. */
    static BreakerOrders chain(int length) {
        BreakerOrders x = new BreakerOrders();
        for (int i = 0; i < length; i++) {
            x.device(i - 1);
        }
        return x;
    }

    /** Two devices, 1 below 0, each with a level curve from place 1 on. */
    static BreakerOrders level(int upperLeast, int lowerMost) {
        BreakerOrders x = chain(2);
        x.point(0, 1, upperLeast, 100000);
        x.point(1, 1, 0, lowerMost);
        return x;
    }

    /** A device with these points, each {place, least, most}. */
    static BreakerOrders curve(int[]... points) {
        BreakerOrders x = chain(1);
        points(x, 0, points);
        return x;
    }

    static void points(BreakerOrders x, int device, int[]... points) {
        for (int[] p : points) {
            x.point(device, p[0], p[1], p[2]);
        }
    }

    /** An option more for a device, chosen at once. */
    static void chooseNew(BreakerOrders x, int device, int scale, int delay) {
        x.choose(device, x.option(device, scale, delay));
    }

    /** So that the short current behind a device that is alone below the source is this one. */
    static void shortBehindOne(BreakerOrders x, int device, int current) {
        x.impedance(device, 1000);
        x.voltage(current);
    }

    /** Three devices, no curve and no list of options full; 19 calls. */
    static BreakerOrders part() {
        BreakerOrders x = chain(3);
        for (int i = 0; i < 3; i++) {
            x.point(i, 20 - i, 900 - 300 * i, 950 - 300 * i);
            x.point(i, 40, 800 - 300 * i, 900 - 300 * i);
            x.option(i, 90 + i, 5 * i);
            x.impedance(i, 30 + i);
            x.choose(i, i % 2);
        }
        x.voltage(4);
        return x;
    }

    /** Eight devices in a row with six points and four options each; 97 calls. */
    static BreakerOrders full() {
        BreakerOrders x = chain(8);
        for (int i = 0; i < 8; i++) {
            for (int k = 1; k <= 6; k++) {
                x.point(i, 10 * k, 9000 - 1000 * i - 70 * k, 9100 - 1000 * i - 60 * k);
            }
            for (int k = 1; k <= 3; k++) {
                x.option(i, 100 - 7 * k, 11 * k + i);
            }
            x.impedance(i, 10 + i);
            x.choose(i, i % 4);
        }
        x.voltage(5);
        return x;
    }
}
