/**
 * Breakers that are to open in order: curves of times, the options that move them, whether a lower
 * breaker always opens before the one above it, short currents, and who opens in a fault.
 *
 * <p>No time is ever rounded before it is compared: a time is kept as a whole number of parts, and
 * two times are compared by multiplying each by the other one's parts.
 */
public final class BreakerOrders {
    public static final int NONE = -1;

    private static final int MOST_CURRENT = 5000;
    private static final int MOST_DEVICES = 8;
    private static final int MOST_POINTS = 6;
    private static final int MOST_OPTIONS = 4;
    private static final int MOST_TIME = 100000;
    private static final int LEAST_SCALE = 10;
    private static final int MOST_SCALE = 1000;
    private static final int MOST_DELAY = 10000;
    private static final int MOST_MARGIN = 10000;
    private static final int MOST_IMPEDANCE = 10000;
    private static final int MOST_VOLTAGE = 1000000;

    /** Scales are told in hundredths, so a current is multiplied by this instead of dividing. */
    private static final int WHOLE_SCALE = 100;
    private static final int FIRST_IMPEDANCE = 100;
    private static final int VOLTAGE_FACTOR = 1000;

    /** Each point of two curves can begin a stretch of currents, and one lies ahead of them all. */
    private static final int MOST_STRETCHES = 2 * MOST_POINTS + 1;
    /** 2 to the 13th is above 5000: so often halved, no two currents are left apart. */
    private static final int MOST_HALVINGS = 13;

    private final Device[] devices = new Device[MOST_DEVICES];
    private int count = 0;
    private int sourceVoltage = 0;

    public BreakerOrders() {
        // All rows are made here, so that later calls make none and meet no null.
        for (int i = 0; i < MOST_DEVICES; i++) {
            devices[i] = new Device(i);
        }
    }

    public int device(int upper) throws IllegalArgumentException, IllegalStateException {
        Device above = upper == NONE ? null : known(upper);
        if (count >= MOST_DEVICES) {
            throw new IllegalStateException("there are 8 devices");
        }
        Device added = devices[count];
        added.above = above;
        count++;
        return added.number;
    }

    public int point(int device, int place, int least, int most)
            throws IllegalArgumentException, IllegalStateException {
        Curve curve = known(device).curve;
        demandWithin(place, 1, MOST_CURRENT);
        demandWithin(most, 0, MOST_TIME);
        demandWithin(least, 0, most);
        if (curve.points >= MOST_POINTS) {
            throw new IllegalStateException("the device has 6 points");
        }
        if (curve.points > 0 && curve.place[curve.points - 1] >= place) {
            throw new IllegalStateException("the last point is at that place or behind it");
        }
        curve.add(place, least, most);
        return curve.points;
    }

    public int option(int device, int scale, int delay)
            throws IllegalArgumentException, IllegalStateException {
        Device owner = known(device);
        demandWithin(scale, LEAST_SCALE, MOST_SCALE);
        demandWithin(delay, 0, MOST_DELAY);
        if (owner.options >= MOST_OPTIONS) {
            throw new IllegalStateException("the device has 4 options");
        }
        int added = owner.options;
        owner.settings[added].scale = scale;
        owner.settings[added].delay = delay;
        owner.options++;
        return added;
    }

    public int choose(int device, int option) throws IllegalArgumentException {
        Device chooser = known(device);
        demandWithin(option, 0, chooser.options - 1);
        int before = chooser.chosen;
        chooser.chosen = option;
        return before;
    }

    public int time(int device, int current, boolean most) throws IllegalArgumentException {
        Setting setting = known(device).chosenSetting();
        demandWithin(current, 1, MOST_CURRENT);
        int piece = setting.pieceAt(current);
        return piece == NONE ? NONE : setting.wholeTime(piece, current, most);
    }

    public int opensFrom(int device) throws IllegalArgumentException {
        int start = known(device).chosenSetting().startBehind(0);
        return start > MOST_CURRENT ? NONE : start;
    }

    // ---- orders

    public int order(int lower, int upper, int margin) throws IllegalArgumentException {
        demandPair(lower, upper, margin);
        return firstBroken(known(lower).chosenSetting(), known(upper).chosenSetting(), margin);
    }

    public int broken(int lower, int upper, int margin) throws IllegalArgumentException {
        demandPair(lower, upper, margin);
        return countBroken(known(lower).chosenSetting(), known(upper).chosenSetting(), margin);
    }

    public boolean settle(int margin) throws IllegalArgumentException {
        demandWithin(margin, 0, MOST_MARGIN);
        for (int i = 0; i < count; i++) {
            devices[i].forgetTries();
        }
        // From the last to the first: what is below a device has a greater number, so it has been
        // tried, and has ruled out the device's options that it cannot follow, before the device is.
        for (int i = count - 1; i >= 0; i--) {
            if (!tryOptions(devices[i], margin)) {
                return false;
            }
        }
        // Devices touch only what is below them, so each one's first option is the first row's too.
        for (int i = 0; i < count; i++) {
            Device above = devices[i].above;
            devices[i].chosen = devices[i].firstFor[above == null ? 0 : above.chosen];
        }
        return true;
    }

    public int chosen(int device) throws IllegalArgumentException {
        return known(device).chosen;
    }

    // ---- shorts

    public int impedance(int device, int z) throws IllegalArgumentException {
        Device owner = known(device);
        demandWithin(z, 1, MOST_IMPEDANCE);
        int before = owner.impedance;
        owner.impedance = z;
        return before;
    }

    public int voltage(int v) throws IllegalArgumentException {
        demandWithin(v, 0, MOST_VOLTAGE);
        int before = sourceVoltage;
        sourceVoltage = v;
        return before;
    }

    public int shortAt(int device) throws IllegalArgumentException {
        return shortCurrent(known(device));
    }

    public int opens(int device, int k) throws IllegalArgumentException {
        Device lowest = known(device);
        demandWithin(k, 0, Integer.MAX_VALUE);
        int current = shortCurrent(lowest);
        Setting quickest = quickestOnWay(lowest, current);
        if (quickest.pieceAt(current) == NONE) {
            return NONE;
        }
        int ahead = k;
        for (Device on = lowest; on != null; on = on.above) {
            if (on.chosenSetting().isWithin(false, 0, quickest, true, current)) {
                if (ahead == 0) {
                    return on.number;
                }
                ahead--;
            }
        }
        return NONE;
    }

    private Device known(int number) {
        if (number < 0 || number >= count) {
            throw new IllegalArgumentException("there is no such device");
        }
        return devices[number];
    }

    private static void demandWithin(int value, int least, int most) {
        if (value < least || value > most) {
            throw new IllegalArgumentException("a number is out of its bounds");
        }
    }

    private static void demandPair(int lower, int upper, int margin) {
        if (lower == upper) {
            throw new IllegalArgumentException("both devices are one");
        }
        demandWithin(margin, 0, MOST_MARGIN);
    }

    /** The first current at which two settings are not in order, or NONE. */
    private static int firstBroken(Setting lower, Setting upper, int margin) {
        int from = firstBrokenStretch(lower, upper, margin);
        if (from == NONE || isBrokenAt(lower, upper, margin, from)) {
            return from;
        }
        return turnIn(lower, upper, margin, from, stretchEnd(lower, upper, from));
    }

    /**
     * Where the first stretch with a current out of order begins, or NONE. Both times run straight
     * through a stretch, so one that is in order at both its ends is so between them.
     */
    private static int firstBrokenStretch(Setting lower, Setting upper, int margin) {
        int from = 1;
        for (int i = 0; i < MOST_STRETCHES && from <= MOST_CURRENT; i++) {
            int end = stretchEnd(lower, upper, from);
            if (isBrokenAt(lower, upper, margin, from) || isBrokenAt(lower, upper, margin, end)) {
                return from;
            }
            from = end + 1;
        }
        return NONE;
    }

    private static int countBroken(Setting lower, Setting upper, int margin) {
        int sum = 0;
        int from = 1;
        for (int i = 0; i < MOST_STRETCHES && from <= MOST_CURRENT; i++) {
            int end = stretchEnd(lower, upper, from);
            sum += countBrokenIn(lower, upper, margin, from, end);
            from = end + 1;
        }
        return sum;
    }

    private static int countBrokenIn(Setting lower, Setting upper, int margin, int from, int end) {
        boolean first = isBrokenAt(lower, upper, margin, from);
        boolean last = isBrokenAt(lower, upper, margin, end);
        if (first == last) {
            return first ? end - from + 1 : 0;
        }
        int turn = turnIn(lower, upper, margin, from, end);
        return first ? turn - from : end - turn + 1;
    }

    /** The last current up to which both settings stay on the pieces that they are on at one. */
    private static int stretchEnd(Setting lower, Setting upper, int from) {
        return Math.min(lower.startBehind(from), upper.startBehind(from)) - 1;
    }

    /** In a stretch whose two ends differ: the first current that is as its end is. */
    private static int turnIn(Setting lower, Setting upper, int margin, int from, int end) {
        boolean last = isBrokenAt(lower, upper, margin, end);
        int before = from;
        int turn = end;
        for (int i = 0; i < MOST_HALVINGS && turn - before > 1; i++) {
            int middle = (before + turn) / 2;
            if (isBrokenAt(lower, upper, margin, middle) == last) {
                turn = middle;
            } else {
                before = middle;
            }
        }
        return turn;
    }

    private static boolean isBrokenAt(Setting lower, Setting upper, int margin, int current) {
        return !lower.isWithin(true, margin, upper, false, current);
    }

    /**
     * Finds a device's first option for each option of its upper one, and rules out those of the
     * upper one's that have none. False if a device below the source has no option left.
     */
    private static boolean tryOptions(Device device, int margin) {
        Device above = device.above;
        if (above == null) {
            device.firstFor[0] = firstFitting(device, null, margin);
            return device.firstFor[0] != NONE;
        }
        for (int i = 0; i < above.options; i++) {
            device.firstFor[i] = firstFitting(device, above.settings[i], margin);
            if (device.firstFor[i] == NONE) {
                above.ruledOut[i] = true;
            }
        }
        return true;
    }

    /** A device's first option that is in order with an upper setting (null: the source's). */
    private static int firstFitting(Device device, Setting upper, int margin) {
        for (int i = 0; i < device.options; i++) {
            if (device.ruledOut[i]) {
                continue;
            }
            if (upper == null || firstBrokenStretch(device.settings[i], upper, margin) == NONE) {
                return i;
            }
        }
        return NONE;
    }

    private int shortCurrent(Device lowest) {
        long sum = 0;
        for (Device on = lowest; on != null; on = on.above) {
            sum += on.impedance;
        }
        if (sum < 1) {
            return 0;
        }
        return (int) Math.min(MOST_CURRENT, (long) VOLTAGE_FACTOR * sourceVoltage / sum);
    }

    /** The one on a device's way with the least most time; it opens if any on the way does. */
    private static Setting quickestOnWay(Device lowest, int current) {
        Setting quickest = lowest.chosenSetting();
        for (Device on = lowest.above; on != null; on = on.above) {
            if (on.chosenSetting().isWithin(true, 0, quickest, true, current)) {
                quickest = on.chosenSetting();
            }
        }
        return quickest;
    }

    /** A breaker: what it is below, its curve, and the options that move the curve. */
    private static final class Device {
        final int number;
        final Curve curve = new Curve();
        final Setting[] settings = new Setting[MOST_OPTIONS];
        /** While settling: the options that some device below this one cannot follow. */
        final boolean[] ruledOut = new boolean[MOST_OPTIONS];
        /** While settling: by the upper one's option, the first own one that goes with it. */
        final int[] firstFor = new int[MOST_OPTIONS];
        /** The upper device; null below the source. */
        Device above = null;
        int options = 1;
        int chosen = 0;
        int impedance = FIRST_IMPEDANCE;

        Device(int number) {
            this.number = number;
            for (int i = 0; i < MOST_OPTIONS; i++) {
                settings[i] = new Setting(curve);
            }
        }

        Setting chosenSetting() {
            return settings[chosen];
        }

        void forgetTries() {
            for (int i = 0; i < MOST_OPTIONS; i++) {
                ruledOut[i] = false;
            }
        }
    }

    /** Points with rising places, each with a least and a most time. */
    private static final class Curve {
        final int[] place = new int[MOST_POINTS];
        final int[] least = new int[MOST_POINTS];
        final int[] most = new int[MOST_POINTS];
        int points = 0;

        void add(int newPlace, int newLeast, int newMost) {
            if (points < MOST_POINTS) {
                place[points] = newPlace;
                least[points] = newLeast;
                most[points] = newMost;
                points++;
            }
        }
    }

    /** A curve as one option moves it. PIECE i of it begins at point i; the last one is level. */
    private static final class Setting {
        final Curve curve;
        int scale = WHOLE_SCALE;
        int delay = 0;

        Setting(Curve curve) {
            this.curve = curve;
        }

        /** The piece that a current is on; NONE if the device never opens at it. */
        int pieceAt(int current) {
            int piece = NONE;
            for (int i = 0; i < curve.points; i++) {
                if (WHOLE_SCALE * current >= scale * curve.place[i]) {
                    piece = i;
                }
            }
            return piece;
        }

        /** The first current behind one at which a piece begins; one too great if there is none. */
        int startBehind(int current) {
            for (int i = 0; i < curve.points; i++) {
                int start = (scale * curve.place[i] + WHOLE_SCALE - 1) / WHOLE_SCALE;
                if (start > current) {
                    return Math.min(start, MOST_CURRENT + 1);
                }
            }
            return MOST_CURRENT + 1;
        }

        /** Into how many parts a unit of time is cut on a piece, so that times there are whole. */
        long partsOn(int piece) {
            if (piece < 0 || piece + 1 >= curve.points) {
                return 1;
            }
            return (long) scale * (curve.place[piece + 1] - curve.place[piece]);
        }

        /** The time at a current on a piece, counted in the piece's parts. */
        long timeInParts(int piece, long parts, int current, boolean ofMost) {
            int[] times = ofMost ? curve.most : curve.least;
            long level = (times[piece] + delay) * parts;
            if (piece + 1 >= curve.points) {
                return level;
            }
            long rise = times[piece + 1] - times[piece];
            return level + rise * (WHOLE_SCALE * current - scale * curve.place[piece]);
        }

        int wholeTime(int piece, int current, boolean ofMost) {
            long parts = partsOn(piece);
            return parts < 1 ? NONE : (int) (timeInParts(piece, parts, current, ofMost) / parts);
        }

        /**
         * Whether this one's time and a margin are not more than the other one's time, as if one
         * that never opens had an endless time. A time with a margin is 120000 at most and a piece
         * has fewer than 5 million parts, so that a product stays below 3.1e18, in a long's bounds.
         */
        boolean isWithin(boolean ofMost, int margin, Setting other, boolean otherMost, int current) {
            int otherPiece = other.pieceAt(current);
            if (otherPiece == NONE) {
                return true;
            }
            int piece = pieceAt(current);
            if (piece == NONE) {
                return false;
            }
            long parts = partsOn(piece);
            long otherParts = other.partsOn(otherPiece);
            long own = timeInParts(piece, parts, current, ofMost) + margin * parts;
            long others = other.timeInParts(otherPiece, otherParts, current, otherMost);
            return own * otherParts <= others * parts;
        }
    }
}
