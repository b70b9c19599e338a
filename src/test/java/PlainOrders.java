import java.math.BigInteger;
import java.util.ArrayList;
import java.util.List;

/**
 * The document once more, word for word and slowly: every current is looked at, every row of
 * options is tried in order, and times are fractions of BigIntegers. BreakerOrders is held
 * against it.
 */
final class PlainOrders {
    static final int NONE = -1;

    private static final class Breaker {
        final int upper;
        final List<int[]> points = new ArrayList<>();
        final List<int[]> options = new ArrayList<>();
        int chosen = 0;
        int impedance = 100;

        Breaker(int upper) {
            this.upper = upper;
            options.add(new int[] {100, 0});
        }
    }

    /** A time: top by bottom; the bottom is above 0. */
    private record Fraction(BigInteger top, BigInteger bottom) {
        static Fraction of(long top, long bottom) {
            return new Fraction(BigInteger.valueOf(top), BigInteger.valueOf(bottom));
        }

        Fraction plus(Fraction o) {
            return new Fraction(top.multiply(o.bottom).add(o.top.multiply(bottom)), bottom.multiply(o.bottom));
        }

        Fraction times(Fraction o) {
            return new Fraction(top.multiply(o.top), bottom.multiply(o.bottom));
        }

        int compare(Fraction o) {
            return top.multiply(o.bottom).compareTo(o.top.multiply(bottom));
        }

        int floor() {
            return top.divide(bottom).intValueExact();
        }
    }

    private final List<Breaker> breakers = new ArrayList<>();
    private int voltage = 0;

    int device(int upper) {
        argument(upper >= NONE && upper < breakers.size());
        state(breakers.size() < 8);
        breakers.add(new Breaker(upper));
        return breakers.size() - 1;
    }

    int point(int device, int place, int least, int most) {
        Breaker b = breaker(device);
        argument(place >= 1 && place <= 5000);
        argument(least >= 0 && least <= 100000);
        argument(most >= 0 && most <= 100000);
        argument(least <= most);
        state(b.points.size() < 6);
        state(b.points.isEmpty() || b.points.get(b.points.size() - 1)[0] < place);
        b.points.add(new int[] {place, least, most});
        return b.points.size();
    }

    int option(int device, int scale, int delay) {
        Breaker b = breaker(device);
        argument(scale >= 10 && scale <= 1000);
        argument(delay >= 0 && delay <= 10000);
        state(b.options.size() < 4);
        b.options.add(new int[] {scale, delay});
        return b.options.size() - 1;
    }

    int choose(int device, int option) {
        Breaker b = breaker(device);
        argument(option >= 0 && option < b.options.size());
        int was = b.chosen;
        b.chosen = option;
        return was;
    }

    int time(int device, int current, boolean most) {
        Breaker b = breaker(device);
        argument(current >= 1 && current <= 5000);
        Fraction t = exact(b, b.chosen, current, most);
        return t == null ? NONE : t.floor();
    }

    int opensFrom(int device) {
        Breaker b = breaker(device);
        for (int i = 1; i <= 5000; i++) {
            if (exact(b, b.chosen, i, false) != null) {
                return i;
            }
        }
        return NONE;
    }

    int order(int lower, int upper, int margin) {
        pair(lower, upper, margin);
        Breaker l = breaker(lower);
        Breaker u = breaker(upper);
        for (int i = 1; i <= 5000; i++) {
            if (!inOrderAt(l, l.chosen, u, u.chosen, margin, i)) {
                return i;
            }
        }
        return NONE;
    }

    int broken(int lower, int upper, int margin) {
        pair(lower, upper, margin);
        Breaker l = breaker(lower);
        Breaker u = breaker(upper);
        int sum = 0;
        for (int i = 1; i <= 5000; i++) {
            if (!inOrderAt(l, l.chosen, u, u.chosen, margin, i)) {
                sum++;
            }
        }
        return sum;
    }

    boolean settle(int margin) {
        argument(margin >= 0 && margin <= 10000);
        Boolean[][][] known = new Boolean[8][4][4];
        int[] row = new int[breakers.size()];
        do {
            if (inOrder(row, margin, known)) {
                for (int i = 0; i < row.length; i++) {
                    breakers.get(i).chosen = row[i];
                }
                return true;
            }
        } while (next(row));
        return false;
    }

    int chosen(int device) {
        return breaker(device).chosen;
    }

    int impedance(int device, int z) {
        Breaker b = breaker(device);
        argument(z >= 1 && z <= 10000);
        int was = b.impedance;
        b.impedance = z;
        return was;
    }

    int voltage(int v) {
        argument(v >= 0 && v <= 1000000);
        int was = voltage;
        voltage = v;
        return was;
    }

    int shortAt(int device) {
        breaker(device);
        long sum = 0;
        for (int on : way(device)) {
            sum += breaker(on).impedance;
        }
        return (int) Math.min(5000L, 1000L * voltage / sum);
    }

    int opens(int device, int k) {
        breaker(device);
        argument(k >= 0);
        int current = shortAt(device);
        Fraction first = null;
        for (int on : way(device)) {
            Fraction most = exact(breaker(on), breaker(on).chosen, current, true);
            if (most != null && (first == null || most.compare(first) < 0)) {
                first = most;
            }
        }
        List<Integer> opening = new ArrayList<>();
        for (int on : way(device)) {
            Fraction least = exact(breaker(on), breaker(on).chosen, current, false);
            if (least != null && least.compare(first) <= 0) {
                opening.add(on);
            }
        }
        return k < opening.size() ? opening.get(k) : NONE;
    }

    private List<Integer> way(int device) {
        List<Integer> way = new ArrayList<>();
        for (int on = device; on != NONE; on = breaker(on).upper) {
            way.add(on);
        }
        return way;
    }

    private boolean inOrder(int[] row, int margin, Boolean[][][] known) {
        for (int i = 0; i < row.length; i++) {
            int upper = breakers.get(i).upper;
            if (upper == NONE) {
                continue;
            }
            if (known[i][row[i]][row[upper]] == null) {
                known[i][row[i]][row[upper]] =
                        inOrder(breakers.get(i), row[i], breakers.get(upper), row[upper], margin);
            }
            if (!known[i][row[i]][row[upper]]) {
                return false;
            }
        }
        return true;
    }

    private static boolean inOrder(Breaker l, int lowerOption, Breaker u, int upperOption, int margin) {
        for (int i = 1; i <= 5000; i++) {
            if (!inOrderAt(l, lowerOption, u, upperOption, margin, i)) {
                return false;
            }
        }
        return true;
    }

    /** The next row of options, the last device's option going first; false behind the last row. */
    private boolean next(int[] row) {
        for (int i = row.length - 1; i >= 0; i--) {
            row[i]++;
            if (row[i] < breakers.get(i).options.size()) {
                return true;
            }
            row[i] = 0;
        }
        return false;
    }

    private static boolean inOrderAt(Breaker l, int lowerOption, Breaker u, int upperOption, int margin, int current) {
        Fraction upper = exact(u, upperOption, current, false);
        if (upper == null) {
            return true;
        }
        Fraction lower = exact(l, lowerOption, current, true);
        return lower != null && lower.plus(Fraction.of(margin, 1)).compare(upper) <= 0;
    }

    /** The exact time, or null if the breaker never opens at that current. */
    private static Fraction exact(Breaker b, int option, int current, boolean most) {
        int row = most ? 2 : 1;
        int scale = b.options.get(option)[0];
        Fraction delay = Fraction.of(b.options.get(option)[1], 1);
        Fraction x = Fraction.of(100L * current, scale);
        if (b.points.isEmpty() || x.compare(Fraction.of(b.points.get(0)[0], 1)) < 0) {
            return null;
        }
        for (int i = 0; i + 1 < b.points.size(); i++) {
            int[] p = b.points.get(i);
            int[] n = b.points.get(i + 1);
            if (x.compare(Fraction.of(n[0], 1)) < 0) {
                Fraction share = x.plus(Fraction.of(-p[0], 1)).times(Fraction.of(1, n[0] - p[0]));
                return Fraction.of(p[row], 1).plus(Fraction.of(n[row] - p[row], 1).times(share)).plus(delay);
            }
        }
        return Fraction.of(b.points.get(b.points.size() - 1)[row], 1).plus(delay);
    }

    private void pair(int lower, int upper, int margin) {
        breaker(lower);
        breaker(upper);
        argument(lower != upper);
        argument(margin >= 0 && margin <= 10000);
    }

    private Breaker breaker(int device) {
        argument(device >= 0 && device < breakers.size());
        return breakers.get(device);
    }

    private static void argument(boolean legal) {
        if (!legal) {
            throw new IllegalArgumentException();
        }
    }

    private static void state(boolean legal) {
        if (!legal) {
            throw new IllegalStateException();
        }
    }
}
