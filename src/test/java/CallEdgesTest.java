/** The sentences of the promises that name an edge of a call, one test for each. */
public final class CallEdgesTest {
    private static final int LEAST = Integer.MIN_VALUE;
    private static final int MOST = Integer.MAX_VALUE;

    public static void main(String[] args) {
        promise1AsSaid();
        promise2NoRegister();
        promise2TheLastRegister();
        promise3NoRegister();
        promise3EveryRegister();
        promise4WrongFaults();
        promise4Loop();
        promise5WrongNumbers();
        promise5OneAndHundred();
        promise5HowManyLeft();
        promise6LowestFourBits();
        promise6WhileLoopIsOff();
        promise7WrongPlaces();
        promise7FewerSent();
        promise8Total();
        promise9NothingHappens();
        promise10Begins();
        promise10NothingUrgent();
        promise10LostStays();
        promise11Full();
        promise12Empty();
        promise12SixOrFewer();
        promise12NotAsked();
        promise12InPlaceOfWhatWas();
        promise13AtMost8();
        promise13TheLastIsNotCounted();
        promise14AnotherNumber();
        promise14EmptyAndFull();
        promise15Sums();
        promise16Lost();
        promise17Idle();
        Check.finish();
    }

    private static void promise1AsSaid() {
        Check.sentence("At first LOW is 1, LEVEL 1, VACATED, OVERRUN and QUEUED are off, the shifter is idle, all else 0 or empty");
        FlowedLine x = new FlowedLine();
        int[] registers = {0, 0, 1, 0, 0, 96, 0, 0};
        for (int a = 0; a < 8; a++) {
            Check.due("read(" + a + ")", x.read(a), registers[a]);
        }
        for (int which = 0; which < 4; which++) {
            Check.due("count(" + which + ")", x.count(which), 0);
        }
        Check.due("take()", x.take(), FlowedLine.NONE);
        Check.due("sent(0)", x.sent(0), FlowedLine.NONE);
        Check.due("all the rest", x.total() + x.flow() + x.lost() + x.left() + x.service(), 0);
        x.write(3, 128);
        Check.due("LOW", x.read(0), 1);
        Check.due("HIGH", x.read(1), 0);
        Check.due("nothing leaves", x.tick(100), 0);
    }

    private static void promise2NoRegister() {
        Check.sentence("read: NONE when there is no register a");
        int[] wrong = {-1, 8, 9, 255, 256, -8, LEAST, MOST};
        FlowedLine x = Given.busy();
        for (int a : wrong) {
            Check.due("read(" + a + ")", x.read(a), FlowedLine.NONE);
        }
        Alike.due("after reading none", x, Given.busy());
    }

    private static void promise2TheLastRegister() {
        Check.sentence("read: eight registers, by addresses 0 .. 7");
        FlowedLine x = Given.busy();
        for (int a = 0; a < 8; a++) {
            Check.due("read(" + a + ") is a byte", x.read(a) >>> 8, 0);
        }
        Check.due("read(7)", x.read(7), 170);
    }

    private static void promise3NoRegister() {
        Check.sentence("write: false when there is no register a");
        int[] wrong = {-1, 8, 9, 255, 256, -8, LEAST, MOST};
        FlowedLine x = Given.busy();
        for (int a : wrong) {
            Check.due("write(" + a + ", 5)", x.write(a, 5), false);
        }
        Alike.due("after writing to none", x, Given.busy());
    }

    private static void promise3EveryRegister() {
        Check.sentence("write: answers true");
        int[] given = {0, 255, 256, -1, LEAST, MOST};
        FlowedLine x = new FlowedLine();
        for (int a = 0; a < 8; a++) {
            for (int v : given) {
                Check.due("write(" + a + ", " + v + ")", x.write(a, v), true);
            }
        }
    }

    private static void promise4WrongFaults() {
        Check.sentence("wire: false, nothing happening, when faults is not 0 .. 7");
        int[] wrong = {-1, 8, 15, 256, LEAST, MOST};
        FlowedLine x = Given.busy();
        FlowedLine empty = new FlowedLine();
        for (int faults : wrong) {
            Check.due("wire(1, " + faults + ")", x.wire(1, faults), false);
            Check.due("wire(1, " + faults + ")", empty.wire(1, faults), false);
        }
        Alike.due("IN full", x, Given.busy());
        Alike.due("IN empty", empty, new FlowedLine());
        FlowedLine y = new FlowedLine();
        for (int faults = 0; faults <= 7; faults++) {
            Check.due("wire(1, " + faults + ")", y.wire(1, faults), true);
            Check.due("came with " + faults, y.read(5), 97 + 4 * faults);
            y.read(0);
        }
    }

    private static FlowedLine busyAndLooped() {
        FlowedLine x = Given.busy();
        x.write(4, 16);
        x.read(5);
        x.read(0);
        return x;
    }

    private static void promise4Loop() {
        Check.sentence("wire: false, nothing happening, when LOOP is on");
        FlowedLine x = busyAndLooped();
        for (int faults = 0; faults <= 8; faults++) {
            Check.due("wire(1, " + faults + ")", x.wire(1, faults), false);
        }
        Alike.due("after it", x, busyAndLooped());
        FlowedLine y = new FlowedLine();
        y.write(4, 31);
        Check.due("LOOP", y.wire(1, 0), false);
        y.write(4, 15);
        Check.due("no LOOP", y.wire(1, 0), true);
        y.write(4, 48);
        Check.due("LOOP again", y.wire(1, 0), false);
        Check.due("one came", y.count(2), 1);
    }

    private static void promise5WrongNumbers() {
        Check.sentence("tick: NONE when n is not 1 .. 100");
        int[] wrong = {0, -1, -100, 101, 256, LEAST, MOST};
        FlowedLine x = Given.busy();
        for (int n : wrong) {
            Check.due("tick(" + n + ")", x.tick(n), FlowedLine.NONE);
        }
        Alike.due("after none", x, Given.busy());
    }

    private static void promise5OneAndHundred() {
        Check.sentence("tick: makes n ticks (1 .. 100)");
        for (int n = 1; n <= 100; n++) {
            FlowedLine x = new FlowedLine();
            Given.span(x, 150, 0, 3);
            x.write(0, 1);
            Check.due("tick(" + n + ")", x.tick(n), 0);
            Check.due("to go after " + n, x.left(), 150 - n);
        }
    }

    private static void promise5HowManyLeft() {
        Check.sentence("tick: answers how many characters left in them");
        for (int n = 1; n <= 20; n++) {
            FlowedLine x = Given.queued(0, 0);
            for (int k = 0; k < 17; k++) {
                x.write(0, k);
            }
            Check.due("tick(" + n + ")", x.tick(n), Math.min(n, 17));
        }
    }

    private static void promise6LowestFourBits() {
        Check.sentence("lines: INPUTS gets the lowest four bits");
        int[] given = {0, 15, 16, 31, -1, -16, LEAST, MOST, 256 + 10};
        int[] inputs = {0, 15, 0, 15, 15, 0, 0, 15, 10};
        for (int k = 0; k < given.length; k++) {
            FlowedLine x = new FlowedLine();
            x.lines(given[k]);
            Check.due("lines(" + given[k] + ")", x.read(6) >> 4, inputs[k]);
        }
    }

    private static void promise6WhileLoopIsOff() {
        Check.sentence("lines: they count while LOOP is off");
        FlowedLine x = new FlowedLine();
        x.write(4, 16);
        x.lines(15);
        Check.due("looped", x.read(6), 0);
        x.write(4, 0);
        Check.due("those given last", x.read(6), 240 + 11);
        x.write(4, 16);
        Check.due("looped again, all fall", x.read(6), 15);
    }

    private static FlowedLine afterSending(int n) {
        FlowedLine x = new FlowedLine();
        x.write(3, 3);
        for (int k = 0; k < n; k++) {
            x.write(0, 100 + k);
            x.tick(1);
        }
        return x;
    }

    private static void promise7WrongPlaces() {
        Check.sentence("sent: NONE when k is not 0 .. 31");
        int[] wrong = {-1, 32, 33, 39, 64, -32, LEAST, MOST};
        FlowedLine x = afterSending(40);
        for (int k : wrong) {
            Check.due("sent(" + k + ")", x.sent(k), FlowedLine.NONE);
        }
        for (int k = 0; k <= 31; k++) {
            Check.due("sent(" + k + ")", x.sent(k), 139 - k);
        }
    }

    private static void promise7FewerSent() {
        Check.sentence("sent: NONE when fewer were sent");
        for (int n = 0; n <= 33; n++) {
            FlowedLine x = afterSending(n);
            for (int k = 0; k < 34; k++) {
                boolean known = k < n && k < 32;
                Check.due("sent(" + k + ") of " + n, x.sent(k), known ? 100 + n - 1 - k : FlowedLine.NONE);
            }
        }
    }

    private static void promise8Total() {
        Check.sentence("total: how many characters were sent (more than sent() can tell too)");
        int[] numbers = {0, 1, 31, 32, 33, 64, 65, 200};
        for (int n : numbers) {
            FlowedLine x = afterSending(n);
            x.write(0, 1);
            Check.due("after " + n, x.total(), n);
            x.write(4, 16);
            x.tick(1);
            Check.due("a looped one is not sent", x.total(), n);
        }
    }

    private static void promise9NothingHappens() {
        Check.sentence("cause: without 192, and with nothing happening");
        FlowedLine x = Given.busy();
        Check.due("busy", x.cause(), 6);
        Check.due("register 2", x.read(2), 198);
        Alike.due("after it", x, Given.busy());
        FlowedLine y = Given.queued(0, 2);
        for (int k = 0; k < 3; k++) {
            Check.due("VACATED stays", y.cause(), 2);
        }
        Check.due("register 2", y.read(2), 194);
        Check.due("VACATED is off", y.cause(), 1);
    }

    private static void promise10Begins() {
        Check.sentence("start: FORTH and BACK are emptied, it is not held, has not asked, has no urgent character; then 71, 3, 7");
        FlowedLine x = Given.busy();
        Check.due("held and asked", x.flow() & 3, 3);
        x.start();
        Check.due("flow()", x.flow(), 0);
        for (int which = 0; which < 4; which++) {
            Check.due("count(" + which + ")", x.count(which), 0);
        }
        Check.due("FORMAT", x.read(3), 3);
        Check.due("ENABLED", x.read(1), 7);
        Check.due("take()", x.take(), FlowedLine.NONE);
        x.read(5);
        Given.wired(x, 1, 3);
        Check.due("three of LEVEL 4", x.read(2) & 4, 0);
        x.wire(4, 0);
        Check.due("QUEUED, and four of LEVEL 4", x.read(2), 196);
        FlowedLine y = new FlowedLine();
        y.write(3, 255);
        y.start();
        Check.due("out of the other bank: ENABLED", y.read(1), 7);
    }

    private static void promise10NothingUrgent() {
        Check.sentence("start: it has no urgent character (whichever was)");
        FlowedLine x = asked();
        Check.due("19 urgent", x.flow(), 10);
        x.start();
        Check.due("nothing", x.flow(), 0);
        FlowedLine y = asked();
        Given.taken(y, 12);
        Check.due("17 urgent", y.flow(), 4);
        y.start();
        Check.due("nothing", y.flow(), 0);
        y.service();
        y.tick(100);
        Check.due("the one that was in the shifter, and none more", y.total(), 1);
    }

    private static void promise10LostStays() {
        Check.sentence("start: what it lost stays");
        FlowedLine x = Given.started();
        Given.received(x, 100, 27);
        Check.due("three lost", x.lost(), 3);
        x.start();
        x.start();
        Check.due("three lost", x.lost(), 3);
    }

    private static FlowedLine forthFull() {
        FlowedLine x = Given.busy();
        while (x.count(1) < 24) {
            x.accept(120 + x.count(1));
        }
        x.write(1, 1);
        return x;
    }

    private static void promise11Full() {
        Check.sentence("accept: false, nothing happening, when FORTH is full");
        FlowedLine x = forthFull();
        int[] given = {0, 17, 255, -1, LEAST, MOST};
        for (int c : given) {
            Check.due("accept(" + c + ")", x.accept(c), false);
        }
        Check.due("it does not wake", x.read(1), 1);
        Alike.due("after it", x, forthFull());
        FlowedLine y = Given.started();
        Given.accepted(y, 1, 23);
        Check.due("the 24th", y.accept(24), true);
        Check.due("the 25th", y.accept(25), false);
        y.service();
        Check.due("places again", y.accept(25), true);
    }

    private static FlowedLine backEmpty() {
        FlowedLine x = Given.busy();
        Given.taken(x, x.count(0));
        x.write(1, 1);
        return x;
    }

    private static void promise12Empty() {
        Check.sentence("take: NONE, nothing happening, when BACK is empty");
        FlowedLine x = backEmpty();
        for (int k = 0; k < 3; k++) {
            Check.due("take()", x.take(), FlowedLine.NONE);
        }
        Check.due("it does not wake", x.read(1), 1);
        Alike.due("after it", x, backEmpty());
        FlowedLine y = Given.started();
        Check.due("new", y.take(), FlowedLine.NONE);
        Given.received(y, 0, 1);
        Check.due("a character 0", y.take(), 0);
        Check.due("empty again", y.take(), FlowedLine.NONE);
    }

    /** 18 in BACK, asked; 19 is urgent and cannot go, for OUT has one. */
    private static FlowedLine asked() {
        FlowedLine x = Given.outKeptBusy();
        Given.receivedAtOnce(x, 100, 16);
        Given.receivedAtOnce(x, 116, 2);
        x.write(1, 1);
        return x;
    }

    private static void promise12SixOrFewer() {
        Check.sentence("take: if the driver has asked and 6 or fewer are there now, 17 is urgent, it has not asked, and wakes");
        FlowedLine x = asked();
        for (int left = 17; left >= 7; left--) {
            Check.due("take()", x.take(), 117 - left);
            Check.due(left + " there", x.flow(), 10);
            Check.due("not woken", x.read(1), 1);
        }
        Check.due("take()", x.take(), 111);
        Check.due("6 there", x.count(0), 6);
        Check.due("17 urgent, not asked", x.flow(), 4);
        Check.due("woken", x.read(1), 3);
        x.write(1, 1);
        x.take();
        Check.due("5 there", x.flow(), 4);
        Check.due("not woken again", x.read(1), 1);
    }

    private static void promise12NotAsked() {
        Check.sentence("take: if the driver has not asked, nothing becomes urgent");
        FlowedLine x = Given.queued(0, 1);
        Given.receivedAtOnce(x, 100, 16);
        Given.receivedAtOnce(x, 116, 1);
        for (int left = 16; left >= 0; left--) {
            Check.due("take()", x.take(), 116 - left);
            Check.due("nothing", x.flow(), 0);
            Check.due("not woken", x.read(1), 1);
        }
    }

    private static void promise12InPlaceOfWhatWas() {
        Check.sentence("take: 17 becomes urgent (in place of what was)");
        FlowedLine x = asked();
        Check.due("19 urgent", x.flow() & 12, 8);
        Given.taken(x, 12);
        Check.due("17 urgent", x.flow() & 12, 4);
        x.tick(2);
        x.service();
        x.tick(100);
        Check.due("two of before, and one", x.total(), 3);
        Check.due("which is 17", x.sent(0), 17);
    }

    private static void promise13AtMost8() {
        Check.sentence("service: rounds, one after the other, at most 8");
        FlowedLine x = new FlowedLine();
        x.write(1, 1);
        x.wire(50, 0);
        x.write(3, 128);
        Check.due("none ends it", x.service(), 8);
        Check.due("8 times 16, less the 24 of BACK", x.lost(), 8 * 16 - 24);
        Check.due("the cause is still there", x.cause(), 4);
        Check.due("and again", x.service(), 8);
        Check.due("16 times 16, less 24", x.lost(), 16 * 16 - 24);
    }

    private static void promise13TheLastIsNotCounted() {
        Check.sentence("service: how many rounds there were, the one that ends it not counted");
        FlowedLine x = new FlowedLine();
        Check.due("it ends at once", x.service(), 0);
        x.write(1, 8);
        x.lines(1);
        Check.due("one, and the end", x.service(), 1);
        x.write(1, 15);
        x.wire(1, 1);
        x.lines(2);
        Check.due("6, 4, 2, 0, and the end", x.service(), 4);
        Check.due("it ends at once", x.service(), 0);
    }

    private static void promise14AnotherNumber() {
        Check.sentence("count: NONE for another number");
        int[] wrong = {-1, 4, 5, 8, 255, 256, LEAST, MOST};
        FlowedLine x = Given.busy();
        for (int which : wrong) {
            Check.due("count(" + which + ")", x.count(which), FlowedLine.NONE);
        }
        Alike.due("after it", x, Given.busy());
    }

    private static void promise14EmptyAndFull() {
        Check.sentence("count: BACK (0) or FORTH (1), IN (2), OUT (3)");
        FlowedLine x = Given.started();
        for (int which = 0; which < 4; which++) {
            Check.due("count(" + which + ")", x.count(which), 0);
        }
        Given.received(x, 100, 24);
        Given.wired(x, 1, 17);
        Given.accepted(x, 1, 25);
        Given.span(x, 50, 0, 3);
        for (int k = 0; k < 20; k++) {
            x.write(0, k);
        }
        int[] full = {24, 24, 16, 16};
        for (int which = 0; which < 4; which++) {
            Check.due("count(" + which + ")", x.count(which), full[which]);
        }
    }

    private static void promise15Sums() {
        Check.sentence("flow: 1 when the driver is held, 2 when it has asked, 4 when 17 is urgent, 8 when 19 is");
        FlowedLine x = asked();
        Check.due("asked, 19 urgent", x.flow(), 10);
        Given.receivedAtOnce(x, 19, 1);
        Check.due("and held", x.flow(), 11);
        Given.taken(x, 12);
        Check.due("held, 17 urgent", x.flow(), 5);
        Given.receivedAtOnce(x, 17, 1);
        Check.due("17 urgent", x.flow(), 4);
        x.tick(2);
        x.service();
        Check.due("nothing", x.flow(), 0);
        Given.receivedAtOnce(x, 19, 1);
        Check.due("held", x.flow(), 1);
        Given.receivedAtOnce(x, 20, 12);
        Check.due("held, asked, 19 was written", x.flow() & 3, 3);
    }

    private static void promise16Lost() {
        Check.sentence("lost: by BACK that is full, and once for each OVERRUN that register 5 tells it of");
        FlowedLine x = Given.started();
        Check.due("none", x.lost(), 0);
        Given.received(x, 100, 24);
        Check.due("BACK just full", x.lost(), 0);
        Given.wired(x, 150, 18);
        x.service();
        Check.due("one by OVERRUN and 16 by BACK", x.lost(), 17);
        Given.wired(x, 150, 18);
        x.read(5);
        x.write(2, 67);
        x.service();
        Check.due("an OVERRUN that was read before is not told of", x.lost(), 17);
    }

    private static void promise17Idle() {
        Check.sentence("left: 0 when the shifter is idle");
        FlowedLine x = new FlowedLine();
        Check.due("new", x.left(), 0);
        Given.span(x, 2, 0, 3);
        Check.due("idle", x.left(), 0);
        x.write(0, 1);
        Check.due("two to go", x.left(), 2);
        x.tick(1);
        Check.due("one to go", x.left(), 1);
        x.tick(1);
        Check.due("idle", x.left(), 0);
        x.tick(100);
        Check.due("still idle", x.left(), 0);
    }
}
