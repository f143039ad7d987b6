/** Promises 10 (start), 11 (accept), 12 (take), 13 (service), 14 (count), 15 (flow) and 16 (lost). */
public final class DriverTest {
    public static void main(String[] args) {
        promise10WritesTheRegisters();
        promise10ForgetsButKeepsLost();
        promise10EmptiesThePort();
        promise10FromTheOtherBank();
        promise11Accept();
        promise11Wakes();
        promise11OtherBank();
        promise12TakesTheOldest();
        promise12Releases();
        promise12InPlaceOfWhatWas();
        promise13EndsAtOnce();
        promise13Faulty();
        promise13ReadsUpTo16();
        promise13SixteenWritten();
        promise13UrgentCountsAmongThem();
        promise13UrgentGoesWhenHeld();
        promise13NothingToWrite();
        promise13Modem();
        promise13AtMost8Rounds();
        promise13OtherBankWrites();
        promise13HoldAndGo();
        promise14Count();
        promise15Flow();
        promise16BackIsFull();
        promise16Overrun();
        Check.finish();
    }

    private static void due(String call, long got, long want) {
        Check.due(call, got, want);
    }

    private static void due(String call, boolean got, boolean want) {
        Check.due(call, got, want);
    }

    private static void promise10WritesTheRegisters() {
        FlowedLine x = Given.started();
        due("FORMAT", x.read(3), 3);
        due("ENABLED", x.read(1), 7);
        due("QUEUED, VACATED", x.read(2), 194);
        due("nothing else", x.read(2), 193);
        x.wire(1, 0);
        x.wire(2, 0);
        x.wire(3, 0);
        due("three", x.cause(), 1);
        x.wire(4, 0);
        due("LEVEL 4", x.cause(), 4);
    }

    private static void promise10ForgetsButKeepsLost() {
        FlowedLine x = Given.started();
        Given.received(x, 100, 26);
        x.wire(19, 0);
        x.tick(4);
        x.service();
        x.accept(1);
        due("BACK", x.count(0), 24);
        due("FORTH", x.count(1), 1);
        due("held and asked", x.flow(), 3);
        due("lost", x.lost(), 2);
        while (x.count(0) > 6) {
            x.take();
        }
        due("held, 17 urgent", x.flow(), 5);
        x.start();
        due("BACK is empty", x.count(0), 0);
        due("FORTH is empty", x.count(1), 0);
        due("flow", x.flow(), 0);
        due("lost stays", x.lost(), 2);
        due("take", x.take(), -1);
        x.tick(10);
        int before = x.total();
        x.service();
        x.tick(10);
        due("nothing urgent is sent", x.total(), before);
        Given.received(x, 100, 18);
        x.start();
        due("not asked any more", x.flow(), 0);
    }

    private static void promise10EmptiesThePort() {
        FlowedLine x = new FlowedLine();
        x.write(2, 1);
        x.wire(1, 0);
        x.write(0, 1);
        x.write(0, 2);
        x.write(4, 9);
        x.write(7, 77);
        x.start();
        due("IN", x.count(2), 0);
        due("OUT", x.count(3), 0);
        due("the shifter goes on", x.left(), 1);
        due("CONTROL stays", x.read(4), 9);
        due("SPARE stays", x.read(7), 77);
    }

    private static void promise10FromTheOtherBank() {
        FlowedLine x = new FlowedLine();
        x.write(3, 128);
        x.write(0, 9);
        x.start();
        due("ENABLED", x.read(1), 7);
        x.write(3, 128);
        due("LOW stays", x.read(0), 9);
        due("HIGH stays", x.read(1), 0);
    }

    private static void promise11Accept() {
        FlowedLine x = Given.started();
        for (int k = 0; k < 24; k++) {
            due("accept " + k, x.accept(k + 256), true);
            due("count", x.count(1), k + 1);
        }
        due("full", x.accept(99), false);
        due("still 24", x.count(1), 24);
        x.service();
        x.tick(100);
        x.service();
        x.tick(100);
        due("all sent", x.total(), 24);
        for (int k = 0; k < 24; k++) {
            due("in order, lowest 8 bits", x.sent(23 - k), k);
        }
        due("a place again", x.accept(-1), true);
        x.service();
        x.tick(1);
        due("lowest 8 bits", x.sent(0), 255);
    }

    private static void promise11Wakes() {
        FlowedLine x = new FlowedLine();
        x.write(1, 8);
        x.accept(1);
        due("ENABLED", x.read(1), 10);
        due("VACATED", x.read(2), 2);
        x.accept(2);
        due("was enabled before", x.cause(), 1);
        FlowedLine y = new FlowedLine();
        for (int k = 0; k < 24; k++) {
            y.accept(k);
        }
        y.write(1, 0);
        due("full", y.accept(1), false);
        due("and does not wake", y.read(1), 0);
    }

    private static void promise11OtherBank() {
        FlowedLine x = new FlowedLine();
        x.write(3, 128);
        x.write(1, 5);
        x.accept(1);
        due("it wakes HIGH", x.read(1), 7);
        x.write(3, 0);
        due("ENABLED", x.read(1), 0);
    }

    private static void promise12TakesTheOldest() {
        FlowedLine x = Given.started();
        due("empty", x.take(), -1);
        Given.received(x, 200, 8);
        for (int k = 0; k < 8; k++) {
            due("take " + k, x.take(), 200 + k);
        }
        due("empty again", x.take(), -1);
        due("nothing urgent, not asked", x.flow(), 0);
        Given.received(x, 250, 6);
        int[] want = {250, 251, 252, 253, 254, 255};
        for (int c : want) {
            due("take", x.take(), c);
        }
    }

    private static void promise12Releases() {
        FlowedLine x = Given.started();
        Given.received(x, 100, 18);
        due("asked", x.flow() & 2, 2);
        x.tick(5);
        x.service();
        x.tick(5);
        due("19 was sent", x.sent(0), 19);
        due("asked, none urgent", x.flow(), 2);
        x.service();
        x.write(1, 5);
        for (int k = 0; k < 11; k++) {
            x.take();
        }
        due("7 there", x.count(0), 7);
        due("still asked", x.flow(), 2);
        due("not woken", x.read(1), 5);
        due("the 12th", x.take(), 111);
        due("17 is urgent", x.flow(), 4);
        due("woken", x.read(1), 7);
        x.write(1, 5);
        x.take();
        due("woken only once", x.read(1), 5);
        x.write(1, 7);
        x.service();
        x.tick(1);
        due("17 was sent", x.sent(0), 17);
        due("flow", x.flow(), 0);
        Given.received(x, 100, 13);
        due("asked again", x.flow() & 2, 2);
    }

    private static void promise12InPlaceOfWhatWas() {
        FlowedLine x = Given.outKeptBusy();
        Given.receivedAtOnce(x, 100, 16);
        due("16 there", x.flow(), 0);
        Given.receivedAtOnce(x, 116, 2);
        due("asked, 19 waits", x.flow(), 10);
        for (int k = 0; k < 12; k++) {
            x.take();
        }
        due("17 in place of 19", x.flow(), 4);
        Given.receivedAtOnce(x, 118, 12);
        due("19 in place of 17", x.flow(), 10);
    }

    private static void promise13EndsAtOnce() {
        FlowedLine x = new FlowedLine();
        due("nothing enabled", x.service(), 0);
        x.wire(1, 1);
        due("still nothing", x.service(), 0);
        due("nothing was read", x.read(5), 101);
    }

    private static void promise13Faulty() {
        FlowedLine x = new FlowedLine();
        x.write(1, 4);
        x.wire(1, 5);
        due("faults", x.service(), 1);
        due("none lost", x.lost(), 0);
        due("it stays in IN", x.count(2), 1);
        due("faults were read", x.read(5), 97);
        x.wire(2, 5);
        due("OVERRUN and faults in one round", x.service(), 1);
        due("one lost", x.lost(), 1);
        due("BACK", x.count(0), 0);
    }

    private static void promise13ReadsUpTo16() {
        FlowedLine x = new FlowedLine();
        x.write(2, 1);
        x.write(1, 1);
        for (int k = 0; k < 16; k++) {
            x.wire(k + 40, k == 3 ? 7 : 0);
        }
        due("one round", x.service(), 1);
        due("16 came", x.count(0), 16);
        due("IN is empty", x.count(2), 0);
        for (int k = 0; k < 16; k++) {
            due("in order", x.take(), k + 40);
        }
        sixteenOfTheOtherBank();
    }

    private static void sixteenOfTheOtherBank() {
        FlowedLine x = new FlowedLine();
        x.write(1, 1);
        x.wire(50, 0);
        x.write(3, 128);
        due("IN never gets empty", x.service(), 8);
        due("BACK is full of LOW", x.count(0), 24);
        due("8 times 16 less 24", x.lost(), 8 * 16 - 24);
        due("LOW", x.take(), 1);
        due("IN stays", x.count(2), 1);
    }

    private static void promise13SixteenWritten() {
        FlowedLine x = Given.started();
        for (int k = 0; k < 20; k++) {
            x.accept(k);
        }
        due("one round", x.service(), 1);
        due("16 written", x.count(1), 4);
        due("15 wait", x.count(3), 15);
        due("nothing is vacated", x.service(), 0);
        due("16 leave", x.tick(20), 16);
        due("the rest", x.service(), 1);
        due("FORTH", x.count(1), 0);
        x.tick(20);
        due("sent in order", x.sent(0), 19);
    }

    private static void promise13UrgentCountsAmongThem() {
        FlowedLine x = Given.started();
        Given.received(x, 100, 17);
        x.tick(10);
        for (int k = 0; k < 24; k++) {
            x.accept(200 + k);
        }
        x.write(1, 1);
        x.wire(117, 0);
        x.tick(4);
        x.service();
        x.tick(20);
        x.service();
        x.tick(20);
        int total = x.total();
        due("19 and 24 of FORTH", total, 25);
        due("19 went first", x.sent(24), 19);
        FlowedLine y = Given.started();
        Given.received(y, 100, 16);
        for (int k = 0; k < 20; k++) {
            y.accept(k);
        }
        y.wire(116, 0);
        y.wire(117, 0);
        y.tick(4);
        y.service();
        due("one urgent and 15 more", y.count(1), 5);
        due("none is urgent now", y.flow(), 2);
    }

    private static void promise13UrgentGoesWhenHeld() {
        FlowedLine x = Given.started();
        x.wire(19, 0);
        Given.received(x, 100, 18);
        x.tick(10);
        x.service();
        x.accept(55);
        x.service();
        x.tick(10);
        due("19 alone was sent", x.total(), 1);
        due("19", x.sent(0), 19);
        due("55 waits", x.count(1), 1);
        due("held and asked", x.flow(), 3);
    }

    private static void promise13NothingToWrite() {
        FlowedLine x = Given.started();
        due("one round", x.service(), 1);
        due("ROOM is disabled", x.read(1), 5);
        x.accept(1);
        due("woken", x.service(), 2);
        due("one was written, then none", x.read(1), 5);
        FlowedLine y = new FlowedLine();
        y.write(1, 2);
        y.write(3, 128);
        y.write(1, 255);
        due("HIGH is cleared instead", y.service(), 1);
        due("HIGH", y.read(1), 253);
        y.write(3, 0);
        due("ENABLED stays", y.read(1), 2);
    }

    private static void promise13Modem() {
        FlowedLine x = new FlowedLine();
        x.write(1, 8);
        x.lines(3);
        due("one round", x.service(), 1);
        due("CHANGES were read", x.read(6), 48);
    }

    private static void promise13AtMost8Rounds() {
        FlowedLine x = new FlowedLine();
        x.write(1, 2);
        x.write(3, 128);
        for (int k = 0; k < 24; k++) {
            x.accept(k);
        }
        due("one round writes LOW", x.service(), 1);
        due("LOW is the 16th", x.read(0), 15);
        FlowedLine y = new FlowedLine();
        y.write(1, 1);
        y.wire(19, 0);
        y.write(3, 128);
        y.write(0, 19);
        due("eight", y.service(), 8);
        due("held by LOW", y.flow(), 1);
        oneRoundForEachCause();
    }

    private static void oneRoundForEachCause() {
        FlowedLine x = new FlowedLine();
        x.write(2, 1);
        x.write(1, 15);
        x.lines(1);
        x.wire(1, 1);
        due("faulty, data, room, modem", x.service(), 4);
        due("all done", x.cause(), 1);
        due("ROOM is off", x.read(1), 13);
        due("one came", x.take(), 1);
    }

    private static void promise13OtherBankWrites() {
        FlowedLine x = new FlowedLine();
        x.write(1, 2);
        x.accept(77);
        x.write(3, 128);
        due("one round", x.service(), 1);
        due("LOW", x.read(0), 77);
        due("FORTH", x.count(1), 0);
        due("nothing to send", x.left(), 0);
    }

    private static void promise13HoldAndGo() {
        FlowedLine x = Given.started();
        x.service();
        x.wire(19, 0);
        x.tick(4);
        x.service();
        due("held", x.flow(), 1);
        due("19 is not kept", x.count(0), 0);
        x.accept(1);
        due("held: none written", x.service(), 1);
        due("ROOM is off", x.read(1), 5);
        x.wire(17, 0);
        x.tick(3);
        due("not yet", x.service(), 0);
        x.tick(1);
        due("read, written, none", x.service(), 3);
        due("not held", x.flow(), 0);
        due("17 is not kept", x.count(0), 0);
        x.tick(1);
        due("sent", x.sent(0), 1);
        x.wire(17, 0);
        x.tick(4);
        due("17 wakes though it was not held", x.service(), 2);
    }

    private static void promise14Count() {
        FlowedLine x = Given.started();
        Given.received(x, 100, 5);
        x.wire(1, 0);
        x.wire(2, 0);
        for (int k = 0; k < 4; k++) {
            x.write(0, k);
        }
        x.accept(1);
        due("BACK", x.count(0), 5);
        due("FORTH", x.count(1), 1);
        due("IN", x.count(2), 2);
        due("OUT", x.count(3), 3);
        int[] wrong = {-1, 4, 5, 256, Integer.MIN_VALUE, Integer.MAX_VALUE};
        for (int which : wrong) {
            due("count(" + which + ")", x.count(which), -1);
        }
    }

    private static void promise15Flow() {
        FlowedLine x = Given.outKeptBusy();
        Given.receivedAtOnce(x, 30, 16);
        due("16 there", x.flow(), 0);
        Given.receivedAtOnce(x, 19, 1);
        Given.receivedAtOnce(x, 46, 1);
        due("held, 17 there", x.flow(), 1);
        Given.receivedAtOnce(x, 47, 1);
        due("held, asked, 19 urgent", x.flow(), 11);
        Given.receivedAtOnce(x, 17, 1);
        due("asked, 19 urgent", x.flow(), 10);
        Given.receivedAtOnce(x, 19, 1);
        while (x.count(0) > 6) {
            x.take();
        }
        due("held, 17 urgent", x.flow(), 5);
        Given.receivedAtOnce(x, 17, 1);
        due("17 urgent", x.flow(), 4);
        x.tick(2);
        x.service();
        due("nothing", x.flow(), 0);
    }

    private static void promise16BackIsFull() {
        FlowedLine x = Given.started();
        Given.received(x, 100, 24);
        due("full", x.count(0), 24);
        due("none lost", x.lost(), 0);
        Given.received(x, 150, 3);
        due("three lost", x.lost(), 3);
        x.wire(19, 0);
        x.wire(17, 0);
        x.tick(4);
        x.service();
        due("19 and 17 need no place", x.lost(), 3);
        due("the oldest stays", x.take(), 100);
        Given.received(x, 160, 1);
        due("a place again", x.lost(), 3);
        for (int k = 1; k < 24; k++) {
            due("kept", x.take(), 100 + k);
        }
        due("the last", x.take(), 160);
    }

    private static void promise16Overrun() {
        FlowedLine x = Given.started();
        for (int k = 0; k < 20; k++) {
            x.wire(30 + k, 0);
        }
        x.service();
        due("OVERRUN counts once, by cause 6", x.lost(), 1);
        due("16 came", x.count(0), 16);
        FlowedLine y = new FlowedLine();
        y.write(1, 1);
        y.wire(1, 0);
        y.wire(2, 0);
        y.service();
        due("OVERRUN while reading", y.lost(), 1);
        due("the later one", y.take(), 2);
        y.wire(1, 0);
        y.wire(2, 0);
        y.read(5);
        y.service();
        due("OVERRUN that was read before", y.lost(), 1);
    }
}
