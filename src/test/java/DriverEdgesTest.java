/** The sentences of the document's Terms that name an edge of the driver, one test for each. */
public final class DriverEdgesTest {
    public static void main(String[] args) {
        rings();
        waking();
        receiving();
        transmitting();
        handling();
        Check.finish();
    }

    private static void rings() {
        forthHas24Places();
        backHas24Places();
        forthGoesRound();
        backGoesRound();
    }

    private static void waking() {
        wakingSetsBit1();
        wakingWhenRoomIsEnabled();
        wakingWhenOutIsNotEmpty();
        wakingByRegistersAlone();
    }

    private static void receiving() {
        noneEndsAtOnce();
        faultyLosesOneByOverrun();
        faultyLosesNoneByFaults();
        readsUntilInIsEmpty();
        readsTheOneOfAnUnqueuedIn();
        losesOneByOverrunWhileReading();
        doesNotReadAtThe17thTime();
        modemReadsChanges();
    }

    private static void transmitting() {
        writesFewerThan16();
        writesSixteenAtMost();
        urgentIsOneOfTheSixteen();
        urgentGoesFirst();
        urgentGoesThoughHeld();
        heldWritesNothing();
        noneWrittenDisablesRoom();
        oneWrittenLeavesRoom();
        writesMoreThanOutHasPlacesFor();
    }

    private static void handling() {
        nineteenHolds();
        seventeenFreesAndWakes();
        seventeenWakesThoughNotHeld();
        fullBackLosesOne();
        fullBackStillHearsBoth();
        asksAt18();
        asksOnlyOnce();
        asksAgainAfterRelease();
    }

    private static void forthHas24Places() {
        Check.sentence("FORTH has 24 places");
        FlowedLine x = Given.started();
        for (int k = 1; k <= 24; k++) {
            Check.due("accept", x.accept(k), true);
            Check.due("in FORTH", x.count(1), k);
        }
        Check.due("the 25th", x.accept(25), false);
        Check.due("in FORTH", x.count(1), 24);
    }

    private static void backHas24Places() {
        Check.sentence("BACK has 24 places");
        FlowedLine x = Given.started();
        Given.received(x, 100, 23);
        Check.due("23", x.count(0), 23);
        Given.received(x, 123, 1);
        Check.due("24", x.count(0), 24);
        Check.due("none lost", x.lost(), 0);
        Given.received(x, 124, 1);
        Check.due("no 25th", x.count(0), 24);
        Check.due("lost", x.lost(), 1);
    }

    private static void forthGoesRound() {
        Check.sentence("the oldest of FORTH is taken out (filled and sent many times)");
        FlowedLine x = Given.started();
        for (int lap = 0; lap < 8; lap++) {
            Given.accepted(x, 24 * lap, 24);
            x.service();
            x.tick(100);
            x.service();
            x.tick(100);
            Check.due("all sent", x.total(), 24 * (lap + 1));
            for (int k = 0; k < 24; k++) {
                Check.due("lap " + lap, x.sent(23 - k), 24 * lap + k);
            }
        }
    }

    private static void backGoesRound() {
        Check.sentence("c comes to the end of BACK; take: the oldest (filled and taken many times)");
        FlowedLine x = Given.started();
        for (int lap = 0; lap < 10; lap++) {
            Given.received(x, 20 + 16 * lap, 16);
            for (int k = 0; k < 16; k++) {
                Check.due("lap " + lap, x.take(), 20 + 16 * lap + k);
            }
        }
        Check.due("empty", x.take(), -1);
    }

    private static void wakingSetsBit1() {
        Check.sentence("To WAKE is to write to register 1 what it reads there with bit 1 set");
        for (int enabled = 0; enabled < 16; enabled++) {
            FlowedLine x = new FlowedLine();
            x.write(1, enabled);
            x.read(2);
            x.accept(1);
            Check.due("ENABLED was " + enabled, x.read(1), enabled | 2);
            Check.due("VACATED, when ROOM is new", x.cause(), (enabled & 2) == 0 ? 2 : 1);
        }
    }

    private static void wakingWhenRoomIsEnabled() {
        Check.sentence("to wake when ROOM is enabled already does not put VACATED on");
        FlowedLine x = Given.started();
        x.read(2);
        x.accept(1);
        Check.due("no cause", x.cause(), 1);
        Check.due("no round", x.service(), 0);
        Check.due("it waits", x.count(1), 1);
    }

    private static void wakingWhenOutIsNotEmpty() {
        Check.sentence("to wake when OUT is not empty does not put VACATED on");
        FlowedLine x = Given.outKeptBusy();
        x.accept(1);
        Check.due("ENABLED", x.read(1), 3);
        Check.due("no cause", x.cause(), 1);
        x.tick(1);
        Check.due("OUT is empty", x.cause(), 2);
    }

    private static void wakingByRegistersAlone() {
        Check.sentence("It uses the port by reading and writing registers alone (HIGH too, with bit 7 of FORMAT)");
        FlowedLine x = Given.queued(3, 1);
        x.wire(1, 0);
        x.tick(4);
        x.write(3, 128);
        x.write(0, 17);
        x.write(3, 0);
        x.tick(64);
        x.write(3, 128);
        Check.due("four spans of 17", x.cause(), 12);
        Check.due("waking makes the span longer", x.service(), 1);
        Check.due("HIGH", x.read(1), 2);
        Check.due("no cause any more", x.cause(), 1);
        x.write(3, 0);
        Check.due("ENABLED", x.read(1), 1);
    }

    private static void noneEndsAtOnce() {
        Check.sentence("1: nothing, and service ends");
        FlowedLine x = Given.busy();
        FlowedLine y = Given.busy();
        x.write(1, 0);
        y.write(1, 0);
        Check.due("no round", x.service(), 0);
        Alike.due("after it", x, y);
    }

    private static void faultyLosesOneByOverrun() {
        Check.sentence("6: it reads register 5, and if bit 1 of that is 1, one more is lost");
        FlowedLine x = Given.queued(0, 4);
        Given.wired(x, 30, 20);
        Check.due("one round", x.service(), 1);
        Check.due("one, for all four", x.lost(), 1);
        Check.due("none is read", x.count(2), 16);
        x.wire(1, 0);
        x.service();
        Check.due("one more", x.lost(), 2);
    }

    private static void faultyLosesNoneByFaults() {
        Check.sentence("6: without bit 1 none is lost");
        for (int faults = 1; faults < 8; faults++) {
            FlowedLine x = Given.queued(0, 4);
            x.wire(1, faults);
            Check.due("one round", x.service(), 1);
            Check.due("none lost by faults " + faults, x.lost(), 0);
            Check.due("register 5 was read", x.read(5), 97);
        }
    }

    private static void readsUntilInIsEmpty() {
        Check.sentence("4 or 12: if register 5 has bit 0 it reads register 0 and handles that, otherwise it stops reading");
        for (int n = 1; n <= 16; n++) {
            FlowedLine x = Given.queued(0, 1);
            Given.wired(x, 100, n);
            Check.due("one round for " + n, x.service(), 1);
            Check.due("IN is empty", x.count(2), 0);
            Check.due("all came", x.count(0), n);
            for (int k = 0; k < n; k++) {
                Check.due("in order", x.take(), 100 + k);
            }
        }
        FlowedLine y = Given.started();
        Given.wired(y, 100, 3);
        y.tick(4);
        Check.due("12", y.cause(), 12);
        y.service();
        Check.due("three came", y.count(0), 3);
    }

    private static void readsTheOneOfAnUnqueuedIn() {
        Check.sentence("4: with QUEUED off there is one to read");
        FlowedLine x = new FlowedLine();
        x.write(1, 1);
        x.wire(40, 0);
        Check.due("one round", x.service(), 1);
        Check.due("one came", x.take(), 40);
        Check.due("no more", x.take(), -1);
    }

    private static void losesOneByOverrunWhileReading() {
        Check.sentence("4 or 12: one more is lost if register 5 has bit 1");
        FlowedLine x = Given.queued(0, 1);
        Given.wired(x, 30, 18);
        Check.due("one round", x.service(), 1);
        Check.due("lost once", x.lost(), 1);
        Check.due("16 came", x.count(0), 16);
        FlowedLine y = new FlowedLine();
        y.write(1, 1);
        y.wire(1, 3);
        y.wire(2, 3);
        Check.due("one round", y.service(), 1);
        Check.due("lost once", y.lost(), 1);
        Check.due("the later came", y.take(), 2);
    }

    private static void doesNotReadAtThe17thTime() {
        Check.sentence("up to 17 times it reads register 5; at the 17th it does not read register 0");
        // LOW stands for an IN that never gets empty; asking for silence makes the span, and so the wait, longer
        FlowedLine x = Given.queued(3, 1);
        x.wire(50, 0);
        x.tick(4);
        x.write(3, 128);
        Check.due("two rounds", x.service(), 2);
        Check.due("two times 16, less 24", x.lost(), 8);
        Check.due("BACK is full", x.count(0), 24);
        Check.due("LOW", x.take(), 1);
        Check.due("IN stays", x.count(2), 1);
    }

    private static void modemReadsChanges() {
        Check.sentence("0: it reads register 6");
        FlowedLine x = new FlowedLine();
        x.write(1, 8);
        x.lines(9);
        Check.due("one round", x.service(), 1);
        Check.due("CHANGES is 0", x.read(6), 144);
        Check.due("no round", x.service(), 0);
    }

    private static void writesFewerThan16() {
        Check.sentence("2: as long as FORTH is not empty, the oldest of FORTH is taken out and written there");
        for (int n = 2; n < 16; n++) {
            FlowedLine x = Given.started();
            Given.accepted(x, 200, n);
            Check.due("one round", x.service(), 1);
            Check.due("FORTH is empty", x.count(1), 0);
            Check.due("one is in the shifter", x.count(3), n - 1);
            Check.due("all are sent", x.tick(100), n);
            Check.due("the last", x.sent(0), 200 + n - 1);
            Check.due("the first", x.sent(n - 1), 200);
        }
    }

    private static void writesSixteenAtMost() {
        Check.sentence("2: as long as fewer than 16 were written in this round");
        for (int n = 16; n <= 24; n++) {
            FlowedLine x = Given.started();
            Given.accepted(x, 200, n);
            Check.due("one round", x.service(), 1);
            Check.due("FORTH keeps the rest of " + n, x.count(1), n - 16);
            Check.due("OUT", x.count(3), 15);
            Check.due("16 are sent", x.tick(100), 16);
            Check.due("the 16th", x.sent(0), 215);
        }
    }

    /** 19 is urgent, n wait in FORTH, and OUT is empty and vacated. */
    private static FlowedLine urgentAnd(int n) {
        FlowedLine x = Given.outKeptBusy();
        Given.receivedAtOnce(x, 100, 16);
        Given.receivedAtOnce(x, 116, 2);
        Given.accepted(x, 20, n);
        x.tick(2);
        return x;
    }

    private static void urgentIsOneOfTheSixteen() {
        Check.sentence("2: the urgent character is one of the 16 that are written in a round");
        for (int n = 13; n <= 17; n++) {
            FlowedLine x = urgentAnd(n);
            Check.due("19 is urgent", x.flow(), 10);
            Check.due("one round", x.service(), 1);
            Check.due("FORTH of " + n, x.count(1), n <= 15 ? 0 : n - 15);
            Check.due("OUT of " + n, x.count(3), n <= 15 ? n : 15);
        }
    }

    private static void urgentGoesFirst() {
        Check.sentence("2: if there is an urgent character, it is written to register 0, and is urgent no more; then FORTH");
        FlowedLine x = urgentAnd(3);
        x.service();
        Check.due("asked, none urgent", x.flow(), 2);
        x.tick(100);
        Check.due("two of before, and four", x.total(), 6);
        Check.due("first", x.sent(3), 19);
        for (int k = 0; k < 3; k++) {
            Check.due("then", x.sent(2 - k), 20 + k);
        }
        FlowedLine y = urgentAnd(0);
        Given.taken(y, 12);
        Check.due("17 in its place", y.flow(), 4);
        y.service();
        Check.due("none urgent", y.flow(), 0);
        y.tick(100);
        Check.due("17 alone", y.total(), 3);
        Check.due("it is", y.sent(0), 17);
    }

    private static void urgentGoesThoughHeld() {
        Check.sentence("2: the urgent character is written though the driver is held");
        FlowedLine x = urgentAnd(5);
        Given.receivedAtOnce(x, 19, 1);
        Check.due("the rest of the round of 19", x.count(3), 0);
        Check.due("held and asked", x.flow(), 3);
        x.tick(100);
        Check.due("19 alone was sent", x.sent(0), 19);
        Check.due("after the two of before", x.total(), 3);
        Check.due("FORTH waits", x.count(1), 5);
    }

    private static FlowedLine heldWithThree() {
        FlowedLine x = Given.started();
        x.wire(19, 0);
        x.tick(4);
        Given.accepted(x, 1, 3);
        x.service();
        return x;
    }

    private static void heldWritesNothing() {
        Check.sentence("2: as long as it is not held");
        FlowedLine x = heldWithThree();
        Check.due("held", x.flow(), 1);
        Check.due("FORTH", x.count(1), 3);
        Check.due("OUT", x.count(3), 0);
        Check.due("the shifter", x.left(), 0);
        Check.due("nothing leaves", x.tick(100), 0);
    }

    private static void noneWrittenDisablesRoom() {
        Check.sentence("if none was written in this round, it writes to register 1 what it reads there with bit 1 cleared");
        Check.due("held", heldWithThree().read(1), 5);
        for (int enabled = 2; enabled < 16; enabled += 4) {
            FlowedLine x = new FlowedLine();
            x.write(1, enabled);
            Check.due("one round, FORTH empty", x.service(), 1);
            Check.due("ENABLED was " + enabled, x.read(1), enabled - 2);
        }
    }

    private static void oneWrittenLeavesRoom() {
        Check.sentence("if one was written in this round, ROOM stays enabled");
        FlowedLine x = Given.outKeptBusy();
        x.tick(1);
        x.accept(5);
        Check.due("one round", x.service(), 1);
        Check.due("one of FORTH: ENABLED", x.read(1), 3);
        FlowedLine y = Given.outKeptBusy();
        y.wire(19, 0);
        Given.receivedAtOnce(y, 100, 15);
        Given.receivedAtOnce(y, 115, 3);
        y.tick(1);
        Check.due("held, asked, 19 urgent", y.flow(), 11);
        Check.due("one round", y.service(), 1);
        Check.due("the urgent one: ENABLED", y.read(1), 3);
        y.tick(1);
        Check.due("one round", y.service(), 1);
        Check.due("none: ENABLED", y.read(1), 1);
    }

    private static void writesMoreThanOutHasPlacesFor() {
        Check.sentence("2: what is written when OUT has no place is lost, and taken out of FORTH all the same");
        FlowedLine x = new FlowedLine();
        Given.accepted(x, 1, 20);
        Check.due("one round", x.service(), 1);
        Check.due("FORTH", x.count(1), 4);
        Check.due("OUT has one place", x.count(3), 1);
        Check.due("two leave", x.tick(10), 2);
        Check.due("the second", x.sent(0), 2);
        Check.due("the driver does not count those", x.lost(), 0);
    }

    private static void nineteenHolds() {
        Check.sentence("19: it is held");
        FlowedLine x = Given.queued(0, 1);
        Given.receivedAtOnce(x, 18, 1);
        Check.due("18 is a character", x.flow(), 0);
        Given.receivedAtOnce(x, 20, 1);
        Check.due("20 is a character", x.flow(), 0);
        Given.receivedAtOnce(x, 19, 1);
        Check.due("19 holds", x.flow(), 1);
        Given.receivedAtOnce(x, 19, 1);
        Check.due("and again", x.flow(), 1);
        Check.due("it is not kept", x.count(0), 2);
        Check.due("it does not wake", x.read(1), 1);
    }

    private static void seventeenFreesAndWakes() {
        Check.sentence("17: it is held no longer, and wakes");
        FlowedLine x = Given.queued(0, 1);
        Given.receivedAtOnce(x, 19, 1);
        Given.receivedAtOnce(x, 16, 1);
        Check.due("16 does not free", x.flow(), 1);
        Check.due("nor wake", x.read(1), 1);
        x.wire(17, 0);
        x.write(0, 1);
        x.write(0, 2);
        x.service();
        Check.due("17 frees", x.flow(), 0);
        Check.due("and wakes", x.read(1), 3);
        Check.due("and is not kept", x.count(0), 1);
    }

    private static void seventeenWakesThoughNotHeld() {
        Check.sentence("17: it wakes (when it was not held too)");
        FlowedLine x = Given.queued(0, 1);
        x.wire(17, 0);
        Check.due("it is read, and none is written", x.service(), 2);
        Check.due("ROOM is off again", x.read(1), 1);
    }

    private static void fullBackLosesOne() {
        Check.sentence("if BACK is full, one more is lost");
        FlowedLine x = Given.started();
        Given.received(x, 100, 24);
        for (int k = 1; k <= 5; k++) {
            Given.received(x, 200, 1);
            Check.due("lost", x.lost(), k);
        }
        x.take();
        Given.received(x, 201, 1);
        Check.due("a place again", x.lost(), 5);
        Given.taken(x, 23);
        Check.due("it is the last", x.take(), 201);
        Check.due("and no other", x.take(), -1);
    }

    private static void fullBackStillHearsBoth() {
        Check.sentence("19 and 17 are not lost when BACK is full");
        FlowedLine x = Given.started();
        Given.received(x, 100, 24);
        Given.received(x, 19, 1);
        Check.due("held", x.flow() & 1, 1);
        Given.received(x, 17, 1);
        Check.due("not held", x.flow() & 1, 0);
        Check.due("none lost", x.lost(), 0);
    }

    private static void asksAt18() {
        Check.sentence("if 18 or more are there now and it has not asked, 19 becomes urgent, it has asked, and wakes");
        FlowedLine x = Given.outKeptBusy();
        Given.receivedAtOnce(x, 100, 16);
        Given.receivedAtOnce(x, 116, 1);
        Check.due("17 are there", x.count(0), 17);
        Check.due("not asked", x.flow(), 0);
        Check.due("not woken", x.read(1), 1);
        Given.receivedAtOnce(x, 117, 1);
        Check.due("18 are there", x.count(0), 18);
        Check.due("asked, 19 urgent", x.flow(), 10);
        Check.due("woken", x.read(1), 3);
    }

    private static void asksOnlyOnce() {
        Check.sentence("when it has asked, 19 does not become urgent again");
        FlowedLine x = urgentAnd(0);
        x.service();
        x.tick(100);
        Check.due("19 was sent", x.sent(0), 19);
        x.service();
        Check.due("ROOM is off", x.read(1), 1);
        for (int n = 19; n <= 25; n++) {
            Given.receivedAtOnce(x, 150, 1);
            Check.due("asked, none urgent", x.flow(), 2);
            Check.due("not woken", x.read(1), 1);
        }
        Given.taken(x, 17);
        Check.due("7 are there", x.flow(), 2);
        Given.receivedAtOnce(x, 20, 11);
        Check.due("18 again, without release", x.flow(), 2);
    }

    private static void asksAgainAfterRelease() {
        Check.sentence("when it has not asked any more, 18 make it ask again");
        FlowedLine x = urgentAnd(0);
        Given.taken(x, 12);
        Check.due("17 urgent", x.flow(), 4);
        x.write(0, 1);
        x.write(0, 2);
        Given.receivedAtOnce(x, 20, 11);
        Check.due("17 are there", x.flow(), 4);
        Given.receivedAtOnce(x, 31, 1);
        Check.due("18 are there", x.flow(), 10);
    }
}
