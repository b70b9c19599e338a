import java.util.Random;

/**
 * Runs of calls that a written seed makes, each answer held against PlainOrders'. The numbers lean
 * to the edges, and to curves that cross, touch and nearly touch one another.
 */
public final class PlainTest {
    private static final int RUNS = 240;
    /** An object's answers are free behind so many calls. */
    private static final int CALLS = 512;

    private final Check check;
    private final String name;
    private final Random random;
    private final BreakerOrders orders = new BreakerOrders();
    private final PlainOrders plain = new PlainOrders();
    /** Runs differ in how many places and times they use: few make curves touch. */
    private final int places;
    private final int times;
    private int devices = 0;
    private int calls = 0;

    private PlainTest(Check check, int seed) {
        this.check = check;
        this.name = "seed " + seed + ": ";
        this.random = new Random(seed);
        this.places = new int[] {8, 60, 700, 5000}[random.nextInt(4)];
        this.times = new int[] {4, 50, 3000, 100000}[random.nextInt(4)];
    }

    public static void main(String[] args) {
        Check check = new Check();
        for (int seed = 0; seed < RUNS; seed++) {
            new PlainTest(check, seed).run();
        }
        check.end();
    }

    private void run() {
        int kinds = random.nextInt(3);
        if (kinds == 0) {
            ladder();
        } else if (kinds == 1) {
            build();
        }
        int dear = 0;
        while (calls < CALLS) {
            int kind = random.nextInt(100);
            boolean isDear = kind >= 60 && kind < 84;
            // Each of these costs the plain program 5000 currents or more, so they are rationed.
            if (isDear && ++dear > 20) {
                kind -= 60;
            }
            call(kind);
        }
    }

    /** A chain whose higher devices are slower and open later, so that settling often goes well. */
    private void ladder() {
        int length = 2 + random.nextInt(7);
        for (int i = 0; i < length; i++) {
            device(random.nextInt(4) == 0 ? random.nextInt(i + 1) - 1 : i - 1);
            int points = 1 + random.nextInt(6);
            int place = Math.max(1, 300 - 30 * i);
            int time = 1000 * (length - i);
            for (int k = 0; k < points; k++) {
                point(i, place, Math.max(0, time), Math.max(0, time) + random.nextInt(100));
                place += 1 + random.nextInt(200);
                time -= random.nextInt(300);
            }
            for (int k = random.nextInt(4); k > 0; k--) {
                option(i, 60 + random.nextInt(200), random.nextInt(900));
            }
        }
        for (int i = 0; i < 6; i++) {
            settle(random.nextInt(1200));
            for (int k = 0; k < length; k++) {
                chosen(k);
            }
        }
    }

    private void build() {
        int length = 1 + random.nextInt(8);
        for (int i = 0; i < length; i++) {
            device(random.nextInt(i + 1) - 1);
            int points = random.nextInt(7);
            int place = 0;
            for (int k = 0; k < points; k++) {
                place += 1 + random.nextInt(Math.max(1, places / 6));
                int least = random.nextInt(times + 1);
                point(i, place, least, Math.min(100000, least + random.nextInt(times / 4 + 1)));
            }
            for (int k = random.nextInt(4); k > 0; k--) {
                option(i, scale(), delay());
            }
        }
    }

    private void call(int kind) {
        if (kind < 3) {
            device(random.nextInt(10) - 2);
        } else if (kind < 12) {
            int least = edge(0, times);
            point(anyDevice(), edge(1, places), least, random.nextInt(9) == 0 ? least - 1 : edge(least, times));
        } else if (kind < 18) {
            option(anyDevice(), scale(), delay());
        } else if (kind < 26) {
            choose(anyDevice(), random.nextInt(7) - 1);
        } else if (kind < 40) {
            time(anyDevice(), random.nextBoolean() ? edge(1, places) : edge(1, 5000), random.nextBoolean());
        } else if (kind < 45) {
            impedance(anyDevice(), random.nextBoolean() ? edge(1, 10000) : edge(1, 300));
        } else if (kind < 50) {
            voltage(random.nextBoolean() ? edge(0, 1000000) : edge(0, 700));
        } else if (kind < 54) {
            shortAt(anyDevice());
        } else if (kind < 60) {
            opens(anyDevice(), random.nextInt(6) - 1);
        } else if (kind < 64) {
            opensFrom(anyDevice());
        } else if (kind < 73) {
            order(anyDevice(), anyDevice(), margin());
        } else if (kind < 81) {
            broken(anyDevice(), anyDevice(), margin());
        } else if (kind < 84) {
            settle(margin());
        } else if (kind < 90) {
            chosen(anyDevice());
        } else {
            opens(anyDevice(), random.nextInt(3));
        }
    }

    /** A number within the bounds, often at one of them, at times beyond. */
    private int edge(int least, int most) {
        switch (random.nextInt(24)) {
            case 0: return least - 1;
            case 1: return most + 1;
            case 2: return least;
            case 3: return most;
            default: return least + random.nextInt(Math.max(1, most - least + 1));
        }
    }

    private int anyDevice() {
        return random.nextInt(20) == 0 ? random.nextInt(12) - 2 : random.nextInt(Math.max(1, devices));
    }

    private int scale() {
        switch (random.nextInt(4)) {
            case 0: return edge(10, 1000);
            case 1: return edge(10, 40);
            case 2: return 50 * (1 + random.nextInt(6));
            default: return edge(80, 130);
        }
    }

    private int delay() {
        return random.nextBoolean() ? edge(0, 10000) : random.nextInt(Math.min(times, 10000) + 1);
    }

    private int margin() {
        return random.nextInt(3) == 0 ? edge(0, 10000) : random.nextInt(Math.min(times, 10000)) / 3;
    }

    private void compare(String call, Check.Call want, Check.Call got) {
        calls++;
        check.compare(name + call, Check.told(want), Check.told(got));
    }

    private void device(int u) {
        compare("device(" + u + ")", () -> {
            int number = plain.device(u);
            devices = number + 1;
            return number;
        }, () -> orders.device(u));
    }

    private void point(int d, int p, int l, int m) {
        compare("point(" + d + ", " + p + ", " + l + ", " + m + ")",
                () -> plain.point(d, p, l, m), () -> orders.point(d, p, l, m));
    }

    private void option(int d, int s, int y) {
        compare("option(" + d + ", " + s + ", " + y + ")", () -> plain.option(d, s, y), () -> orders.option(d, s, y));
    }

    private void choose(int d, int o) {
        compare("choose(" + d + ", " + o + ")", () -> plain.choose(d, o), () -> orders.choose(d, o));
    }

    private void time(int d, int c, boolean m) {
        compare("time(" + d + ", " + c + ", " + m + ")", () -> plain.time(d, c, m), () -> orders.time(d, c, m));
    }

    private void opensFrom(int d) {
        compare("opensFrom(" + d + ")", () -> plain.opensFrom(d), () -> orders.opensFrom(d));
    }

    private void order(int l, int u, int m) {
        compare("order(" + l + ", " + u + ", " + m + ")", () -> plain.order(l, u, m), () -> orders.order(l, u, m));
    }

    private void broken(int l, int u, int m) {
        compare("broken(" + l + ", " + u + ", " + m + ")", () -> plain.broken(l, u, m), () -> orders.broken(l, u, m));
    }

    private void settle(int m) {
        compare("settle(" + m + ")", () -> plain.settle(m) ? 1 : 0, () -> orders.settle(m) ? 1 : 0);
    }

    private void chosen(int d) {
        compare("chosen(" + d + ")", () -> plain.chosen(d), () -> orders.chosen(d));
    }

    private void impedance(int d, int z) {
        compare("impedance(" + d + ", " + z + ")", () -> plain.impedance(d, z), () -> orders.impedance(d, z));
    }

    private void voltage(int v) {
        compare("voltage(" + v + ")", () -> plain.voltage(v), () -> orders.voltage(v));
    }

    private void shortAt(int d) {
        compare("shortAt(" + d + ")", () -> plain.shortAt(d), () -> orders.shortAt(d));
    }

    private void opens(int d, int k) {
        compare("opens(" + d + ", " + k + ")", () -> plain.opens(d, k), () -> orders.opens(d, k));
    }
}
