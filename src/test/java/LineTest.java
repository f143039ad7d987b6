/** Promises 4 (wire), 5 (tick), 6 (lines), 7 (sent), 8 (total) and 17 (left). */
public final class LineTest {
    public static void main(String[] args) {
        promise4Faults();
        promise4Loop();
        promise4NoPlaceWithoutQueues();
        promise4NoPlaceWithQueues();
        promise5WrongNumbers();
        promise5LeavesAfterTheSpan();
        promise5SpanIsThatOfTheMove();
        promise5Format();
        promise5Loop();
        promise5LoopOverruns();
        promise6Lines();
        promise6Loop();
        promise6SameLinesChangeNothing();
        promise7Sent();
        promise8Total();
        promise17Left();
        Check.finish();
    }

    private static void due(String call, long got, long want) {
        Check.due(call, got, want);
    }

    private static void due(String call, boolean got, boolean want) {
        Check.due(call, got, want);
    }

    private static void promise4Faults() {
        FlowedLine x = new FlowedLine();
        int[] wrong = {-1, 8, 256, Integer.MIN_VALUE, Integer.MAX_VALUE};
        for (int faults : wrong) {
            due("wire(1, " + faults + ")", x.wire(1, faults), false);
        }
        due("nothing came", x.count(2), 0);
        for (int faults = 0; faults < 8; faults++) {
            due("wire(1, " + faults + ")", x.wire(1, faults), true);
        }
        x.read(0);
        x.wire(-1, 0);
        due("lowest 8 bits", x.read(0), 255);
        x.read(5);
        x.wire(256, 0);
        due("higher bits make no faults", x.read(5), 97);
    }

    private static void promise4Loop() {
        FlowedLine x = new FlowedLine();
        x.wire(1, 0);
        x.write(4, 16);
        due("LOOP", x.wire(2, 0), false);
        due("no OVERRUN", x.read(5), 97);
        due("the earlier one", x.read(0), 1);
        due("nothing came", x.count(2), 0);
        x.write(4, 15);
        due("no LOOP", x.wire(2, 0), true);
        due("came", x.read(0), 2);
    }

    private static void promise4NoPlaceWithoutQueues() {
        FlowedLine x = new FlowedLine();
        x.wire(1, 4);
        x.wire(2, 1);
        due("count", x.count(2), 1);
        due("OVERRUN, later faults", x.read(5), 96 + 1 + 2 + 4);
        due("the later one", x.read(0), 2);
    }

    private static void promise4NoPlaceWithQueues() {
        FlowedLine x = new FlowedLine();
        x.write(2, 1);
        for (int k = 0; k < 16; k++) {
            x.wire(k, 0);
        }
        due("no OVERRUN yet", x.read(5), 97);
        due("lost, but true", x.wire(99, 7), true);
        due("OVERRUN", x.read(5), 99);
        due("OVERRUN is off", x.read(5), 97);
        for (int k = 0; k < 16; k++) {
            due("kept " + k, x.read(0), k);
        }
        due("nothing more", x.count(2), 0);
    }

    private static void promise5WrongNumbers() {
        FlowedLine x = new FlowedLine();
        Given.span(x, 200, 0, 3);
        x.write(0, 7);
        int[] wrong = {0, -1, 101, Integer.MIN_VALUE, Integer.MAX_VALUE};
        for (int n : wrong) {
            due("tick(" + n + ")", x.tick(n), -1);
        }
        due("no tick was made", x.left(), 200);
        due("tick(1)", x.tick(1), 0);
        due("tick(100)", x.tick(100), 0);
        due("left", x.left(), 99);
        due("tick(99)", x.tick(99), 1);
    }

    private static void promise5LeavesAfterTheSpan() {
        FlowedLine x = new FlowedLine();
        x.write(2, 1);
        Given.span(x, 3, 0, 3);
        x.write(0, 1);
        x.write(0, 2);
        x.write(0, 3);
        due("two ticks", x.tick(2), 0);
        due("the third", x.tick(1), 1);
        due("the next moved in the same tick", x.left(), 3);
        due("six ticks", x.tick(6), 2);
        due("sent in order", x.sent(0) + 256 * x.sent(1) + 65536 * x.sent(2), 3 + 256 * 2 + 65536);
        due("no more", x.tick(100), 0);
    }

    private static void promise5SpanIsThatOfTheMove() {
        FlowedLine x = new FlowedLine();
        Given.span(x, 5, 0, 3);
        x.write(0, 1);
        x.write(0, 2);
        Given.span(x, 2, 0, 3);
        due("the first goes on", x.left(), 5);
        due("four ticks", x.tick(4), 0);
        due("the fifth", x.tick(1), 1);
        due("the new span", x.left(), 2);
        Given.span(x, 0, 0, 3);
        x.tick(2);
        x.write(0, 3);
        due("a span of at least 1", x.left(), 1);
        Given.span(x, 0, 1, 3);
        x.tick(1);
        x.write(0, 3);
        due("HIGH counts 256", x.left(), 256);
    }

    private static void promise5Format() {
        int[] masks = {31, 63, 127, 255};
        for (int format = 0; format < 128; format += 5) {
            FlowedLine x = new FlowedLine();
            x.write(0, 255);
            x.write(3, format);
            x.tick(1);
            due("format " + format + " at leaving", x.sent(0), masks[format & 3]);
        }
        FlowedLine x = new FlowedLine();
        x.write(0, 0xAA);
        x.write(3, 130);
        x.tick(1);
        due("with the other bank", x.sent(0), 0x2A);
    }

    private static void promise5Loop() {
        FlowedLine x = new FlowedLine();
        x.write(2, 1);
        x.write(3, 1);
        x.write(4, 16);
        x.write(0, 0xFF);
        x.write(0, 0x41);
        due("left counts those that loop", x.tick(2), 2);
        due("not sent", x.total(), 0);
        due("arrived", x.count(2), 2);
        due("no faults", x.read(5), 97);
        due("cut to the format", x.read(0), 63);
        due("cut to the format", x.read(0), 1);
        x.write(0, 2);
        x.write(4, 0);
        x.tick(1);
        due("LOOP at leaving decides", x.sent(0), 2);
        due("nothing arrived", x.count(2), 0);
    }

    private static void promise5LoopOverruns() {
        FlowedLine x = new FlowedLine();
        x.write(3, 3);
        x.wire(1, 7);
        x.write(4, 16);
        x.write(0, 200);
        x.tick(1);
        due("OVERRUN and no faults", x.read(5), 99);
        due("takes the place", x.read(0), 200);
    }

    private static void promise6Lines() {
        for (int before = 0; before < 16; before++) {
            for (int after = 0; after < 16; after++) {
                FlowedLine x = new FlowedLine();
                x.lines(before);
                x.read(6);
                x.lines(after);
                int changes = (before ^ after) & 11;
                if ((before & 4) != 0 && (after & 4) == 0) {
                    changes += 4;
                }
                due("lines " + before + " to " + after, x.read(6), 16 * after + changes);
            }
        }
        FlowedLine x = new FlowedLine();
        x.lines(-1);
        due("lowest four bits", x.read(6), 240 + 11);
        x.lines(16 + 32);
        due("higher bits do not count", x.read(6), 15);
        x.lines(1);
        x.lines(0);
        due("changes are gathered", x.read(6), 1);
    }

    private static void promise6Loop() {
        for (int control = 0; control < 16; control++) {
            FlowedLine x = new FlowedLine();
            x.write(4, control);
            due("outputs alone change nothing", x.read(6), 0);
            x.write(4, 16 + control);
            int inputs = (control & 12) + (control & 1) * 2 + (control >> 1 & 1);
            due("looped " + control, x.read(6), 16 * inputs + (inputs & 11));
            x.lines(5);
            due("lines do not count now", x.read(6), 16 * inputs);
            x.write(4, control);
            int changes = (inputs ^ 5) & 11;
            due("lines given before count again", x.read(6), 80 + changes);
        }
    }

    private static void promise6SameLinesChangeNothing() {
        FlowedLine x = new FlowedLine();
        x.lines(10);
        x.read(6);
        x.lines(10);
        x.lines(26);
        due("same", x.read(6), 160);
        x.write(4, 16 + 9);
        due("the loop gives the same", x.read(6), 160);
    }

    private static void promise7Sent() {
        FlowedLine x = new FlowedLine();
        x.write(3, 3);
        for (int k = 0; k < 40; k++) {
            x.write(0, 100 + k);
            x.tick(1);
            due("sent(0)", x.sent(0), 100 + k);
            due("the first", x.sent(k), k < 32 ? 100 : -1);
            due("before the first", x.sent(k + 1), -1);
        }
        for (int k = 0; k < 32; k++) {
            due("sent(" + k + ")", x.sent(k), 139 - k);
        }
        int[] wrong = {-1, 32, 39, Integer.MIN_VALUE, Integer.MAX_VALUE};
        for (int k : wrong) {
            due("sent(" + k + ")", x.sent(k), -1);
        }
    }

    private static void promise8Total() {
        FlowedLine x = new FlowedLine();
        for (int k = 0; k < 70; k++) {
            x.write(0, k);
            due("not yet", x.total(), k);
            x.tick(1);
            due("sent", x.total(), k + 1);
        }
        x.write(4, 16);
        x.write(0, 1);
        x.tick(1);
        due("looped ones are not sent", x.total(), 70);
        x.start();
        due("start does not count anew", x.total(), 70);
    }

    private static void promise17Left() {
        FlowedLine x = new FlowedLine();
        Given.span(x, 255, 255, 3);
        due("idle", x.left(), 0);
        x.write(0, 1);
        due("the widest span", x.left(), 65535);
        x.tick(35);
        due("after 35 ticks", x.left(), 65500);
        x.write(2, 7);
        due("emptying OUT leaves the shifter", x.left(), 65500);
        x.write(2, 0);
        due("and so does the change", x.left(), 65500);
        FlowedLine y = new FlowedLine();
        y.write(0, 1);
        due("span 1", y.left(), 1);
        y.tick(1);
        due("idle again", y.left(), 0);
        y.tick(3);
        due("idle stays idle", y.left(), 0);
    }
}
