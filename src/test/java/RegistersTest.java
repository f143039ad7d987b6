/** Promises 1 (a new object), 2 (read), 3 (write) and 9 (cause). */
public final class RegistersTest {
    public static void main(String[] args) {
        promise1NewObject();
        promise1ObjectsAreApart();
        promise2NoSuchRegister();
        promise2DataRegister();
        promise2OtherBank();
        promise2CauseRegister();
        promise2StatusOfFaults();
        promise2StatusOfOneFaultEach();
        promise2StatusAtTheEdgesOfACharacter();
        promise2StatusOfOut();
        promise2ModemRegister();
        promise3NoSuchRegister();
        promise3OnlyBytes();
        promise3PlainRegisters();
        promise3DataWithoutQueues();
        promise3DataWithQueues();
        promise3DataVacated();
        promise3Enabling();
        promise3QueueingChanges();
        promise3QueueingEmpties();
        promise3QueueingOffIgnoresTheRest();
        promise3QueueingVacates();
        promise3Levels();
        promise9Order();
        promise9EnabledOnly();
        promise9Quiet();
        promise9QuietStartsAgain();
        promise9NothingHappens();
        Check.finish();
    }

    private static void due(String call, long got, long want) {
        Check.due(call, got, want);
    }

    private static void due(String call, boolean got, boolean want) {
        Check.due(call, got, want);
    }

    private static void promise1NewObject() {
        FlowedLine x = new FlowedLine();
        int[] registers = {0, 0, 1, 0, 0, 96, 0, 0};
        for (int a = 0; a < 8; a++) {
            due("new: read(" + a + ")", x.read(a), registers[a]);
        }
        for (int which = 0; which < 4; which++) {
            due("new: count(" + which + ")", x.count(which), 0);
        }
        due("new: cause", x.cause(), 1);
        due("new: total", x.total(), 0);
        due("new: sent(0)", x.sent(0), -1);
        due("new: take", x.take(), -1);
        due("new: flow", x.flow(), 0);
        due("new: lost", x.lost(), 0);
        due("new: left", x.left(), 0);
        due("new: service", x.service(), 0);
        due("new: tick(100)", x.tick(100), 0);
        x.write(3, 128);
        due("new: LOW", x.read(0), 1);
        due("new: HIGH", x.read(1), 0);
    }

    private static void promise1ObjectsAreApart() {
        FlowedLine x = new FlowedLine();
        FlowedLine y = new FlowedLine();
        x.write(7, 9);
        x.wire(1, 0);
        x.accept(3);
        x.lines(15);
        due("apart: SPARE", y.read(7), 0);
        due("apart: IN", y.count(2), 0);
        due("apart: FORTH", y.count(1), 0);
        due("apart: CHANGES", y.read(6), 0);
        due("apart: ENABLED", y.read(1), 0);
    }

    private static void promise2NoSuchRegister() {
        FlowedLine x = new FlowedLine();
        x.wire(7, 0);
        int[] none = {-1, 8, 16, 256, -8, Integer.MIN_VALUE, Integer.MAX_VALUE};
        for (int a : none) {
            due("read(" + a + ")", x.read(a), -1);
        }
        due("nothing was read", x.count(2), 1);
    }

    private static void promise2DataRegister() {
        FlowedLine x = new FlowedLine();
        x.write(2, 1);
        x.wire(200, 0);
        x.wire(201, 7);
        x.wire(0x3FF, 0);
        due("oldest first", x.read(0), 200);
        due("without its faults", x.read(0), 201);
        due("lowest 8 bits of wire", x.read(0), 255);
        due("empty", x.read(0), 0);
        due("nothing left", x.count(2), 0);
    }

    private static void promise2OtherBank() {
        FlowedLine x = new FlowedLine();
        x.wire(50, 0);
        x.write(1, 5);
        x.write(3, 131);
        x.write(0, 12);
        x.write(1, 34);
        due("LOW", x.read(0), 12);
        due("HIGH", x.read(1), 34);
        due("FORMAT", x.read(3), 131);
        due("IN stays", x.count(2), 1);
        due("OUT stays", x.count(3), 0);
        due("shifter stays idle", x.left(), 0);
        x.write(3, 127);
        due("ENABLED", x.read(1), 5);
        due("IN", x.read(0), 50);
        x.write(0, 1);
        due("span", x.left(), 12 + 256 * 34);
    }

    private static void promise2CauseRegister() {
        FlowedLine x = new FlowedLine();
        x.write(1, 15);
        x.lines(1);
        x.wire(1, 0);
        due("not queued", x.read(2), 4);
        due("VACATED stays behind another cause", x.read(2), 4);
        x.read(0);
        due("VACATED", x.read(2), 2);
        due("VACATED went off", x.read(2), 0);
        due("CHANGES stay", x.read(2), 0);
        x.write(2, 1);
        due("queued", x.read(2), 192);
        x.write(1, 0);
        due("queued, none", x.read(2), 193);
        x.write(1, 2);
        due("queued, VACATED", x.read(2), 194);
        due("queued, VACATED went off", x.read(2), 193);
        x.wire(1, 1);
        x.write(1, 7);
        due("queued, faulty", x.read(2), 198);
        due("faults stay", x.read(2), 198);
        x.read(5);
        due("queued, data", x.read(2), 196);
    }

    private static void promise2StatusOfFaults() {
        FlowedLine x = new FlowedLine();
        x.wire(1, 7);
        due("one place, faults", x.read(5), 96 + 1 + 28);
        due("faults are gone", x.read(5), 97);
        x.wire(2, 2);
        due("taken over with its faults", x.read(5), 96 + 1 + 2 + 8);
        due("OVERRUN went off", x.read(5), 97);
        due("the later one", x.read(0), 2);
        x.write(2, 1);
        x.wire(1, 0);
        x.wire(2, 4);
        x.wire(3, 1);
        due("some has faults", x.read(5), 96 + 128 + 1);
        due("only the oldest loses them", x.read(5), 96 + 128 + 1);
        x.read(0);
        due("BREAK", x.read(5), 96 + 128 + 1 + 16);
        due("one more has faults", x.read(5), 96 + 128 + 1);
        x.read(0);
        due("PARITY", x.read(5), 96 + 128 + 1 + 4);
        due("none has faults", x.read(5), 97);
        due("the character stays", x.read(0), 3);
        due("empty", x.read(5), 96);
    }

    private static void promise2StatusOfOneFaultEach() {
        for (int faults = 0; faults < 8; faults++) {
            FlowedLine x = new FlowedLine();
            x.wire(255, faults);
            due("status with faults " + faults, x.read(5), 97 + 4 * faults);
        }
    }

    private static void promise2StatusAtTheEdgesOfACharacter() {
        FlowedLine x = new FlowedLine();
        x.write(2, 1);
        x.write(1, 4);
        x.wire(255, 0);
        due("255 is no fault", x.cause(), 1);
        due("255 is no fault of some", x.read(5), 97);
        x.wire(0, 1);
        due("0 with PARITY, of some", x.read(5), 97 + 128);
        x.read(0);
        due("0 with PARITY", x.cause(), 6);
        x.read(0);
        due("what was taken out does not count", x.read(5), 96);
        x.wire(1, 0);
        x.wire(2, 7);
        x.write(2, 3);
        x.wire(3, 0);
        due("what was emptied does not count", x.read(5), 97);
    }

    private static void promise2StatusOfOut() {
        FlowedLine x = new FlowedLine();
        x.write(0, 1);
        due("shifter busy", x.read(5), 32);
        x.write(0, 2);
        due("OUT not empty", x.read(5), 0);
        x.tick(1);
        due("OUT moved", x.read(5), 32);
        x.tick(1);
        due("idle", x.read(5), 96);
    }

    private static void promise2ModemRegister() {
        FlowedLine x = new FlowedLine();
        x.lines(15);
        due("all rise but bit 2", x.read(6), 240 + 11);
        due("CHANGES were read", x.read(6), 240);
        x.lines(0);
        due("all fall", x.read(6), 15);
        due("and were read", x.read(6), 0);
    }

    private static void promise3NoSuchRegister() {
        FlowedLine x = new FlowedLine();
        int[] none = {-1, 8, 15, 256, Integer.MIN_VALUE, Integer.MAX_VALUE};
        for (int a : none) {
            due("write(" + a + ", 255)", x.write(a, 255), false);
        }
        for (int a = 0; a < 8; a++) {
            due("still read(" + a + ")", x.read(a), a == 5 ? 96 : a == 2 ? 1 : 0);
        }
    }

    private static void promise3OnlyBytes() {
        FlowedLine x = new FlowedLine();
        due("write(7, -1)", x.write(7, -1), true);
        due("SPARE", x.read(7), 255);
        x.write(7, 0x12345);
        due("SPARE", x.read(7), 0x45);
        x.write(3, 0x103);
        due("FORMAT", x.read(3), 3);
        x.write(4, -1);
        due("CONTROL", x.read(4), 31);
        x.write(4, 0);
        x.write(1, 0x107);
        due("ENABLED", x.read(1), 7);
        x.write(0, 0x141);
        x.tick(1);
        due("sent", x.sent(0), 0x41);
        x.write(2, 0x100);
        due("QUEUED off", x.read(2) & 192, 0);
        x.write(2, 0xF01);
        x.wire(1, 0);
        due("LEVEL 1 of the lowest 8 bits", x.cause(), 4);
        x.write(3, 0x180);
        x.write(0, 0x3FE);
        x.write(1, -2);
        due("LOW", x.read(0), 0xFE);
        due("HIGH", x.read(1), 0xFE);
    }

    private static void promise3PlainRegisters() {
        FlowedLine x = new FlowedLine();
        for (int a = 0; a < 8; a++) {
            due("write(" + a + ", 0)", x.write(a, 0), true);
        }
        x.tick(1);
        due("5 does nothing", x.write(5, 255), true);
        due("6 does nothing", x.write(6, 255), true);
        due("STATUS", x.read(5), 96);
        due("modem", x.read(6), 0);
        x.write(1, 255);
        due("ENABLED has four bits", x.read(1), 15);
        x.write(4, 0xEF);
        due("CONTROL has five bits", x.read(4), 15);
        x.write(3, 0x7F);
        due("FORMAT", x.read(3), 0x7F);
        due("SPARE is apart", x.read(7), 0);
    }

    private static void promise3DataWithoutQueues() {
        FlowedLine x = new FlowedLine();
        x.write(3, 3);
        x.write(0, 1);
        due("moved", x.count(3), 0);
        due("sending", x.left(), 1);
        x.write(0, 2);
        due("waits", x.count(3), 1);
        x.write(0, 3);
        due("lost", x.count(3), 1);
        due("left", x.tick(5), 2);
        due("the one that waited", x.sent(0), 2);
    }

    private static void promise3DataWithQueues() {
        FlowedLine x = new FlowedLine();
        x.write(3, 3);
        x.write(2, 1);
        for (int k = 0; k < 20; k++) {
            x.write(0, 100 + k);
        }
        due("16 places", x.count(3), 16);
        due("all that had a place", x.tick(100), 17);
        for (int k = 0; k < 17; k++) {
            due("sent(" + k + ")", x.sent(k), 116 - k);
        }
    }

    private static void promise3DataVacated() {
        FlowedLine x = new FlowedLine();
        x.write(1, 2);
        x.read(2);
        x.write(0, 1);
        due("moving comes after", x.cause(), 2);
        x.write(0, 2);
        due("writing puts it off", x.cause(), 1);
        x.write(0, 3);
        due("a lost one too", x.cause(), 1);
        x.tick(1);
        due("moving puts it on", x.cause(), 2);
        x.write(2, 1);
        x.write(0, 4);
        x.write(0, 5);
        x.tick(1);
        due("OUT is not empty yet", x.cause(), 1);
        x.tick(1);
        due("OUT is empty", x.cause(), 2);
    }

    private static void promise3Enabling() {
        FlowedLine x = new FlowedLine();
        x.write(1, 2);
        due("VACATED by enabling", x.read(2), 2);
        x.write(1, 2);
        due("not when it was enabled", x.cause(), 1);
        x.write(1, 13);
        x.write(1, 15);
        due("enabled again", x.read(2), 2);
        x.write(1, 0);
        x.write(0, 1);
        x.write(0, 2);
        x.write(1, 2);
        due("not when OUT has one", x.cause(), 1);
        x.write(3, 128);
        x.write(1, 0);
        x.write(1, 2);
        due("HIGH enables nothing", x.cause(), 1);
        x.write(3, 0);
        due("ENABLED", x.read(1), 2);
    }

    private static FlowedLine withThreeEachWay() {
        FlowedLine x = new FlowedLine();
        x.write(2, 1);
        for (int k = 0; k < 3; k++) {
            x.wire(k, 0);
            x.write(0, k);
        }
        x.write(0, 3);
        return x;
    }

    private static void promise3QueueingChanges() {
        FlowedLine x = withThreeEachWay();
        due("IN", x.count(2), 3);
        due("OUT", x.count(3), 3);
        x.write(2, 0);
        due("IN emptied", x.count(2), 0);
        due("OUT emptied", x.count(3), 0);
        due("the shifter goes on", x.left(), 1);
        x.wire(1, 0);
        x.wire(2, 0);
        x.write(0, 1);
        x.write(0, 2);
        due("one place in IN", x.count(2), 1);
        due("one place in OUT", x.count(3), 1);
        x.write(2, 1);
        due("IN emptied again", x.count(2), 0);
        due("OUT emptied again", x.count(3), 0);
        due("OVERRUN stays", x.read(5) & 2, 2);
        for (int k = 0; k < 17; k++) {
            x.wire(k, 0);
            x.write(0, k);
        }
        due("16 places in IN", x.count(2), 16);
        due("16 places in OUT", x.count(3), 16);
    }

    private static void promise3QueueingEmpties() {
        for (int bits = 0; bits < 4; bits++) {
            FlowedLine x = withThreeEachWay();
            x.write(2, 1 + 2 * bits);
            due("IN after " + bits, x.count(2), (bits & 1) != 0 ? 0 : 3);
            due("OUT after " + bits, x.count(3), (bits & 2) != 0 ? 0 : 3);
        }
        FlowedLine x = withThreeEachWay();
        x.write(2, 8 + 16 + 32 + 1);
        due("other bits, IN", x.count(2), 3);
        due("other bits, OUT", x.count(3), 3);
    }

    private static void promise3QueueingOffIgnoresTheRest() {
        FlowedLine x = new FlowedLine();
        x.wire(1, 0);
        x.write(0, 1);
        x.write(0, 2);
        x.write(2, 254);
        due("IN stays", x.count(2), 1);
        due("OUT stays", x.count(3), 1);
        x.write(1, 1);
        due("one is enough when not queued", x.cause(), 4);
    }

    private static void promise3QueueingVacates() {
        FlowedLine x = withThreeEachWay();
        x.write(1, 2);
        due("OUT has some", x.cause(), 1);
        x.write(2, 3);
        due("OUT was not emptied", x.cause(), 1);
        x.write(2, 5);
        due("OUT was emptied", x.read(2), 194);
        x.write(2, 5);
        due("OUT was empty", x.cause(), 1);
        x.write(2, 0);
        due("OUT was empty at the change", x.cause(), 1);
        x.write(0, 1);
        x.write(0, 2);
        due("waits", x.cause(), 1);
        x.write(2, 1);
        due("emptied by the change", x.cause(), 2);
    }

    private static void promise3Levels() {
        int[] levels = {1, 4, 8, 14};
        for (int k = 0; k < 4; k++) {
            FlowedLine x = new FlowedLine();
            x.write(2, 64 * k + 1);
            x.write(1, 1);
            for (int c = 1; c <= 16; c++) {
                x.wire(c, 0);
                due("level " + levels[k] + " with " + c, x.cause(), c >= levels[k] ? 4 : 1);
            }
            x.write(2, 1 + 64 * (3 - k));
            due("level is changed, IN stays", x.count(2), 16);
        }
    }

    private static void promise9Order() {
        FlowedLine x = new FlowedLine();
        x.write(2, 65);
        x.lines(1);
        x.write(1, 15);
        due("ROOM before MODEM", x.cause(), 2);
        x.wire(1, 0);
        x.tick(4);
        due("quiet before ROOM", x.cause(), 12);
        for (int k = 0; k < 3; k++) {
            x.wire(1, 0);
        }
        x.tick(4);
        due("data before quiet", x.cause(), 4);
        x.wire(9, 1);
        due("faults behind the oldest do not count", x.cause(), 4);
        for (int k = 0; k < 12; k++) {
            x.wire(1, 0);
        }
        due("OVERRUN first", x.cause(), 6);
        x.read(5);
        due("no OVERRUN", x.cause(), 4);
        for (int k = 0; k < 4; k++) {
            x.read(0);
        }
        due("the oldest has faults", x.cause(), 6);
        x.write(2, 67);
        due("ROOM again", x.read(2), 194);
        due("MODEM last", x.cause(), 0);
        x.read(6);
        due("none", x.cause(), 1);
    }

    private static void promise9EnabledOnly() {
        int[] causes = {1, 4, 2, 4, 6, 6, 6, 6, 0, 4, 2, 4, 6, 6, 6, 6};
        for (int enabled = 0; enabled < 16; enabled++) {
            FlowedLine x = new FlowedLine();
            x.wire(1, 1);
            x.lines(2);
            x.write(1, enabled);
            due("all hold, enabled " + enabled, x.cause(), causes[enabled]);
        }
        for (int enabled = 0; enabled < 16; enabled++) {
            FlowedLine x = new FlowedLine();
            x.write(1, enabled);
            due("only VACATED, enabled " + enabled, x.read(2), (enabled & 2) != 0 ? 2 : 1);
            x.lines(2);
            due("only CHANGES, enabled " + enabled, x.cause(), (enabled & 8) != 0 ? 0 : 1);
        }
        FlowedLine x = new FlowedLine();
        x.write(1, 4);
        x.wire(1, 0);
        due("no faults, no OVERRUN", x.cause(), 1);
        x.wire(2, 0);
        due("OVERRUN", x.cause(), 6);
    }

    private static void promise9Quiet() {
        FlowedLine x = new FlowedLine();
        x.write(2, 193);
        x.write(3, 128);
        x.write(0, 3);
        x.write(3, 0);
        x.write(1, 1);
        x.tick(50);
        due("IN is empty", x.cause(), 1);
        x.wire(1, 0);
        x.tick(11);
        due("11 ticks of 12", x.cause(), 1);
        x.tick(1);
        due("12 ticks", x.cause(), 12);
        x.tick(100);
        due("more", x.cause(), 12);
        x.write(1, 14);
        due("not enabled", x.cause() == 12, false);
        x.write(1, 1);
        x.write(3, 128);
        x.write(1, 1);
        x.write(3, 0);
        due("the span of now", x.cause(), 1);
        x.write(3, 128);
        x.write(1, 0);
        x.write(0, 0);
        x.write(3, 0);
        due("a span of at least 1", x.cause(), 12);
    }

    private static void promise9QuietStartsAgain() {
        FlowedLine x = new FlowedLine();
        x.write(2, 193);
        x.write(1, 1);
        x.wire(1, 0);
        x.tick(3);
        x.wire(2, 0);
        x.tick(3);
        due("an arrival starts it again", x.cause(), 1);
        x.tick(1);
        due("4 after it", x.cause(), 12);
        x.read(0);
        due("reading starts it again", x.cause(), 1);
        x.tick(3);
        due("3 after reading", x.cause(), 1);
        x.tick(1);
        due("4 after reading", x.cause(), 12);
        x.write(2, 131);
        due("IN was emptied", x.cause(), 1);
        x.wire(3, 0);
        x.tick(3);
        due("3 after emptying", x.cause(), 1);
        otherBankLeavesQuiet();
        loopedArrivalsOwnTickCounts();
    }

    private static void otherBankLeavesQuiet() {
        FlowedLine x = new FlowedLine();
        x.write(2, 193);
        x.write(1, 1);
        x.wire(1, 0);
        x.tick(4);
        x.write(3, 128);
        x.read(0);
        due("reading LOW leaves QUIET", x.cause(), 12);
    }

    private static void loopedArrivalsOwnTickCounts() {
        FlowedLine x = new FlowedLine();
        x.write(2, 193);
        x.write(1, 1);
        x.write(4, 16);
        x.write(0, 5);
        x.tick(1);
        due("looped back", x.count(2), 1);
        x.tick(2);
        due("its own tick counts, 3", x.cause(), 1);
        x.tick(1);
        due("its own tick counts, 4", x.cause(), 12);
    }

    private static void promise9NothingHappens() {
        FlowedLine x = new FlowedLine();
        x.write(1, 2);
        due("once", x.cause(), 2);
        due("twice", x.cause(), 2);
        x.write(2, 1);
        due("without 192", x.cause(), 2);
        due("register 2", x.read(2), 194);
        due("off", x.cause(), 1);
    }
}
