/** States that several tests begin with. */
final class Given {
    private Given() {
    }

    static FlowedLine started() {
        FlowedLine x = new FlowedLine();
        x.start();
        return x;
    }

    /** A port with QUEUED on, and the LEVEL that stands at this place of 1, 4, 8, 14. */
    static FlowedLine queued(int levelPlace, int enabled) {
        FlowedLine x = new FlowedLine();
        x.write(2, 64 * levelPlace + 1);
        x.write(1, enabled);
        return x;
    }

    static void span(FlowedLine x, int low, int high, int format) {
        x.write(3, 128);
        x.write(0, low);
        x.write(1, high);
        x.write(3, format);
    }

    static void ticks(FlowedLine x, int n) {
        for (int rest = n; rest > 0; rest -= 100) {
            x.tick(Math.min(rest, 100));
        }
    }

    /** Brings n characters, from c on, to the port. */
    static void wired(FlowedLine x, int c, int n) {
        for (int k = 0; k < n; k++) {
            x.wire(c + k, 0);
        }
    }

    static void accepted(FlowedLine x, int c, int n) {
        for (int k = 0; k < n; k++) {
            x.accept(c + k);
        }
    }

    static void taken(FlowedLine x, int n) {
        for (int k = 0; k < n; k++) {
            x.take();
        }
    }

    /** Brings n characters, from c on, into BACK of a started driver, in portions that IN has places for. */
    static void received(FlowedLine x, int c, int n) {
        for (int k = 0; k < n; k += 4) {
            wired(x, c + k, Math.min(4, n - k));
            x.tick(4);
            x.service();
        }
    }

    /** Brings n characters, from c on, into BACK in one round, with a LEVEL of 1. */
    static void receivedAtOnce(FlowedLine x, int c, int n) {
        wired(x, c, n);
        x.service();
    }

    /** A driver whose urgent character has to wait: OUT has one, and DATA alone is enabled. */
    static FlowedLine outKeptBusy() {
        FlowedLine x = queued(0, 1);
        x.write(0, 1);
        x.write(0, 2);
        return x;
    }

    /** Something in every part of the object, so that a change anywhere can be seen. */
    static FlowedLine busy() {
        FlowedLine x = started();
        received(x, 100, 18);
        accepted(x, 60, 20);
        x.service();
        x.tick(5);
        span(x, 3, 0, 2);
        x.wire(19, 0);
        x.tick(20);
        x.service();
        accepted(x, 90, 3);
        x.lines(13);
        x.write(4, 6);
        x.write(7, 170);
        x.write(1, 15);
        for (int k = 0; k < 17; k++) {
            x.wire(30 + k, k % 8);
        }
        return x;
    }
}
