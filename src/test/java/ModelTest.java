import java.util.ArrayList;

/** All promises: long mixed runs of calls, each answer compared with that of PlainModel. */
public final class ModelTest {
    private static final int RUNS = 3000;
    /** An object is promised for 512 calls; one step makes at most some 22. */
    private static final int CALLS_BEFORE_LAST_STEP = 512 - 32;
    private static final int[] ODD = {-1, -2, 8, 32, 100, 101, 256, 511, Integer.MIN_VALUE, Integer.MAX_VALUE};

    private static long seed = 20261115;

    private final FlowedLine line = new FlowedLine();
    private final PlainModel model = new PlainModel();
    private final ArrayList<String> calls = new ArrayList<>();
    private final int style;

    private ModelTest(int style) {
        this.style = style;
    }

    public static void main(String[] args) {
        for (int run = 0; run < RUNS && Check.allWell(); run++) {
            ModelTest test = new ModelTest(run % 4);
            test.run();
            if (!Check.allWell()) {
                System.out.println("after " + test.calls);
            }
        }
        Check.finish();
    }

    /** A fixed row of numbers, so that every run of the tests makes the same calls. */
    private static int next(int bound) {
        seed = seed * 6364136223846793005L + 1442695040888963407L;
        return (int) ((seed >>> 33) % bound);
    }

    private void run() {
        if (style < 2) {
            start();
        }
        while (calls.size() < CALLS_BEFORE_LAST_STEP && Check.allWell()) {
            step();
        }
    }

    /** Styles 0 and 1 work the driver, 2 the registers, 3 all alike. */
    private void step() {
        int kind = next(100);
        if (style == 2) {
            kind = kind / 2;
        } else if (style < 2) {
            kind = 30 + kind * 7 / 10;
        }
        if (kind < 12) {
            int a = next(40) == 0 ? odd() : next(8);
            due("read(" + a + ")", line.read(a), model.read(a));
        } else if (kind < 32) {
            write();
        } else if (kind < 42) {
            wire();
        } else if (kind < 50) {
            tick();
        } else if (kind < 55) {
            look();
        } else {
            driverStep(kind);
        }
    }

    private void driverStep(int kind) {
        if (kind < 65) {
            int n = style == 0 ? 1 + next(6) : 1;
            for (int k = 0; k < n; k++) {
                int c = character();
                due("accept(" + c + ")", line.accept(c), model.accept(c));
            }
        } else if (kind < 72) {
            int n = next(10) == 0 ? 20 : 1;
            for (int k = 0; k < n; k++) {
                due("take()", line.take(), model.take());
            }
        } else if (kind < 85) {
            due("service()", line.service(), model.service());
        } else if (kind < 94) {
            burst();
        } else if (kind < 95) {
            start();
        } else {
            look();
        }
    }

    private void start() {
        calls.add("start()");
        line.start();
        model.start();
    }

    private void write() {
        int a = next(40) == 0 ? odd() : next(8);
        int v = next(30) == 0 ? odd() : next(256);
        if (a == 3 && next(3) > 0) {
            v = next(4);
        } else if (a == 2 && next(3) > 0) {
            v = 1 + 64 * next(4);
        } else if (a == 4 && next(2) > 0) {
            v = next(16);
        }
        due("write(" + a + ", " + v + ")", line.write(a, v), model.write(a, v));
        if (a == 3 && v >= 128 && next(3) > 0) {
            int small = next(6);
            due("write(0, " + small + ")", line.write(0, small), model.write(0, small));
            due("write(1, 0)", line.write(1, 0), model.write(1, 0));
            due("write(3, 3)", line.write(3, 3), model.write(3, 3));
        }
    }

    private void wire() {
        int c = character();
        int faults = next(20) == 0 ? odd() : next(4) == 0 ? next(8) : 0;
        due("wire(" + c + ", " + faults + ")", line.wire(c, faults), model.wire(c, faults));
    }

    private void burst() {
        int n = next(20);
        for (int k = 0; k < n; k++) {
            wire();
        }
        tick();
    }

    private void tick() {
        int n = next(20) == 0 ? odd() : next(4) == 0 ? 1 + next(100) : 1 + next(8);
        due("tick(" + n + ")", line.tick(n), model.tick(n));
    }

    private void look() {
        if (next(3) == 0) {
            int bits = next(10) == 0 ? odd() : next(16);
            calls.add("lines(" + bits + ")");
            line.lines(bits);
            model.lines(bits);
        }
        int k = next(10) == 0 ? odd() : next(33);
        due("sent(" + k + ")", line.sent(k), model.sent(k));
        due("total()", line.total(), model.total());
        due("cause()", line.cause(), model.cause());
        for (int which = -1; which < 5; which++) {
            due("count(" + which + ")", line.count(which), model.count(which));
        }
        due("flow()", line.flow(), model.flow());
        due("lost()", line.lost(), model.lost());
        due("left()", line.left(), model.left());
    }

    private static int odd() {
        return ODD[next(ODD.length)];
    }

    private static int character() {
        int kind = next(12);
        return kind == 0 ? 17 : kind == 1 ? 19 : kind == 2 ? odd() : next(256);
    }

    private void due(String call, boolean got, boolean want) {
        due(call, got ? 1 : 0, want ? 1 : 0);
    }

    private void due(String call, int got, int want) {
        calls.add(call + "=" + want);
        Check.due(call, got, want);
    }
}
