/** The sentences of the document's Terms that name an edge of the port, one test for each. */
public final class PortEdgesTest {
    private static final int[] LEVELS = {1, 4, 8, 14};

    public static void main(String[] args) {
        places();
        numbers();
        moving();
        arriving();
        causes();
        reading();
        writing();
        ticking();
        Check.finish();
    }

    private static void places() {
        inHas16PlacesWhenQueued();
        outHas16PlacesWhenQueued();
        inHasOnePlaceOtherwise();
        outHasOnePlaceOtherwise();
        bothHaveOnePlaceAgain();
        inGoesRound();
        outGoesRound();
    }

    private static void numbers() {
        lowestEightBitsCount();
        spanAtItsEdges();
        spanIsAtLeast1();
        fourBitsAndFiveBits();
        inputsCrossWhenLooped();
        changesOfThreeBitsBothWays();
        changesOfBit2WhenItFalls();
    }

    private static void moving() {
        movingTheLastOneVacates();
        movingAnotherDoesNot();
    }

    private static void arriving() {
        arrivingMakesQuiet0();
        arrivingWithoutAPlaceWhenQueued();
        arrivingWithoutAPlaceOtherwise();
    }

    private static void causes() {
        faultyComesFirst();
        faultyByOverrunAlone();
        faultyByTheOldestAlone();
        dataAtTheLevel();
        dataAtOneWhenNotQueued();
        dataComesBeforeQuiet();
        quietAtFourSpans();
        quietNeedsOneInIn();
        quietComesBeforeRoom();
        roomComesBeforeModem();
        modemComesBeforeNone();
        whatIsNotEnabledIsPassedOver();
        oneCauseAlone();
    }

    private static void reading() {
        readingInWhenItIsEmpty();
        readingACharacterThatIs0();
        readingLowAndHigh();
        readingTheCausePutsVacatedOff();
        readingStatusOfAnEmptyIn();
        readingStatusOfOut();
        readingStatusOfSomeFaults();
        readingStatusOfWhatIsGone();
        readingStatusClearsTheOldestAlone();
        readingChangesClearsThem();
    }

    private static void writing() {
        writingWhenOutHasNoPlace();
        writingPutsVacatedOff();
        enablingRoomWhenOutIsEmpty();
        enablingRoomWhenOutIsNot();
        enablingRoomThatWasEnabled();
        queuedThatChangesEmptiesBoth();
        queuedThatStaysEmptiesNone();
        queuedOnEmptiesByItsBits();
        queuedOffHasNoBits();
        queuedSetsTheLevel();
        emptyingOutVacates();
        emptyingAnEmptyOutDoesNot();
        writingTo5And6();
        writingToOneRegisterAlone();
    }

    private static void ticking() {
        leavesWithNoTickLeft();
        leavesByTheFormat();
        loopedArrivesWithoutFaults();
        loopedArrivesWithoutAPlace();
        movesInTheTickOfLeaving();
        quietGrowsInTheTickOfArriving();
    }

    private static void inHas16PlacesWhenQueued() {
        Check.sentence("IN has 16 places when QUEUED is on");
        FlowedLine x = Given.queued(0, 0);
        for (int k = 1; k <= 16; k++) {
            x.wire(k, 0);
            Check.due("characters in IN", x.count(2), k);
            Check.due("OVERRUN at " + k, x.read(5), 97);
        }
        x.wire(17, 0);
        Check.due("no 17th", x.count(2), 16);
        Check.due("OVERRUN", x.read(5), 99);
    }

    private static void outHas16PlacesWhenQueued() {
        Check.sentence("OUT has 16 places when QUEUED is on");
        FlowedLine x = Given.queued(0, 0);
        Given.span(x, 200, 0, 3);
        x.write(0, 100);
        for (int k = 1; k <= 16; k++) {
            x.write(0, 100 + k);
            Check.due("characters in OUT", x.count(3), k);
        }
        x.write(0, 117);
        Check.due("no 17th", x.count(3), 16);
        Given.span(x, 1, 0, 3);
        Given.ticks(x, 199);
        Check.due("one shifted and 16 waited", x.tick(100), 17);
        for (int k = 0; k <= 16; k++) {
            Check.due("in order", x.sent(16 - k), 100 + k);
        }
    }

    private static void inHasOnePlaceOtherwise() {
        Check.sentence("IN has one place when QUEUED is off");
        FlowedLine x = new FlowedLine();
        x.wire(1, 0);
        Check.due("one", x.count(2), 1);
        Check.due("no OVERRUN", x.read(5), 97);
        x.wire(2, 0);
        Check.due("still one", x.count(2), 1);
        Check.due("OVERRUN", x.read(5), 99);
    }

    private static void outHasOnePlaceOtherwise() {
        Check.sentence("OUT has one place when QUEUED is off");
        FlowedLine x = new FlowedLine();
        x.write(0, 1);
        Check.due("none waits", x.count(3), 0);
        x.write(0, 2);
        Check.due("one waits", x.count(3), 1);
        x.write(0, 3);
        Check.due("still one", x.count(3), 1);
        Check.due("two leave", x.tick(100), 2);
        Check.due("the second is the last", x.sent(0), 2);
    }

    private static void bothHaveOnePlaceAgain() {
        Check.sentence("IN and OUT have one place each when QUEUED is off again");
        FlowedLine x = Given.queued(0, 0);
        x.write(2, 0);
        Given.wired(x, 1, 2);
        Check.due("IN", x.count(2), 1);
        for (int k = 0; k < 3; k++) {
            x.write(0, k);
        }
        Check.due("OUT", x.count(3), 1);
    }

    private static void inGoesRound() {
        Check.sentence("IN: the oldest first (filled and read out many times)");
        FlowedLine x = Given.queued(0, 0);
        for (int lap = 0; lap < 12; lap++) {
            Given.wired(x, 16 * lap, 16);
            for (int k = 0; k < 16; k++) {
                Check.due("lap " + lap, x.read(0), (16 * lap + k) & 255);
            }
        }
        Check.due("empty", x.read(0), 0);
    }

    private static void outGoesRound() {
        Check.sentence("the oldest of OUT goes into the shifter (filled and sent many times)");
        FlowedLine x = Given.queued(0, 0);
        x.write(3, 3);
        for (int lap = 0; lap < 12; lap++) {
            for (int k = 0; k < 17; k++) {
                x.write(0, 17 * lap + k);
            }
            Check.due("17 leave", x.tick(17), 17);
            for (int k = 0; k < 17; k++) {
                Check.due("lap " + lap, x.sent(16 - k), (17 * lap + k) & 255);
            }
        }
    }

    private static void lowestEightBitsCount() {
        Check.sentence("of an int that is given for a byte its lowest 8 bits count");
        int[] given = {0, 255, 256, 257, -1, -255, -256, Integer.MAX_VALUE, Integer.MIN_VALUE};
        int[] bytes = {0, 255, 0, 1, 255, 1, 0, 255, 0};
        FlowedLine x = Given.started();
        for (int k = 0; k < given.length; k++) {
            x.write(7, given[k]);
            Check.due("SPARE of " + given[k], x.read(7), bytes[k]);
            x.wire(given[k], 0);
            Check.due("no faults of " + given[k], x.read(5) & 0xBD, 1 + 32);
            Check.due("wired " + given[k], x.read(0), bytes[k]);
            x.accept(given[k]);
            x.service();
            x.tick(1);
            Check.due("accepted " + given[k], x.sent(0), bytes[k]);
            x.write(0, given[k]);
            x.tick(1);
            Check.due("written " + given[k], x.sent(0), bytes[k]);
        }
    }

    private static void spanAtItsEdges() {
        Check.sentence("The SPAN is LOW + 256 * HIGH ticks");
        int[][] rows = {{1, 0, 1}, {2, 0, 2}, {255, 0, 255}, {0, 1, 256}, {1, 1, 257}, {0, 255, 65280}, {255, 255, 65535}};
        for (int[] row : rows) {
            FlowedLine x = new FlowedLine();
            Given.span(x, row[0], row[1], 3);
            x.write(0, 1);
            Check.due("LOW " + row[0] + ", HIGH " + row[1], x.left(), row[2]);
        }
    }

    private static void spanIsAtLeast1() {
        Check.sentence("The SPAN is at least 1");
        FlowedLine x = new FlowedLine();
        Given.span(x, 0, 0, 3);
        x.write(0, 9);
        Check.due("ticks to go", x.left(), 1);
        Check.due("it leaves at the first", x.tick(1), 1);
        x.write(3, 128);
        Check.due("LOW is 0 all the same", x.read(0), 0);
        FlowedLine y = Given.queued(3, 1);
        Given.span(y, 0, 0, 3);
        y.wire(1, 0);
        Check.due("no span is 0 ticks long", y.cause(), 1);
        y.tick(3);
        Check.due("three spans of 1", y.cause(), 1);
        y.tick(1);
        Check.due("four spans of 1", y.cause(), 12);
    }

    private static void fourBitsAndFiveBits() {
        Check.sentence("ENABLED, four bits; CONTROL, five bits");
        FlowedLine x = new FlowedLine();
        int[] given = {0, 15, 16, 31, 32, 240, 255};
        for (int v : given) {
            x.write(1, v);
            Check.due("ENABLED of " + v, x.read(1), v % 16);
            x.write(4, v);
            Check.due("CONTROL of " + v, x.read(4), v % 32);
        }
    }

    private static void inputsCrossWhenLooped() {
        Check.sentence("with LOOP on the bits 0, 1, 2, 3 of INPUTS are the bits 1, 0, 2, 3 of CONTROL");
        int[] control = {0, 1, 2, 4, 8, 15};
        int[] inputs = {0, 2, 1, 4, 8, 15};
        for (int k = 0; k < control.length; k++) {
            FlowedLine x = new FlowedLine();
            x.write(4, 16 + control[k]);
            Check.due("CONTROL " + control[k], x.read(6) >> 4, inputs[k]);
            x.write(4, control[k]);
            Check.due("and off again", x.read(6) >> 4, 0);
        }
    }

    private static void changesOfThreeBitsBothWays() {
        Check.sentence("bits 0, 1 and 3 of CHANGES become 1 when that bit of INPUTS changes");
        int[] bits = {1, 2, 8};
        for (int bit : bits) {
            FlowedLine x = new FlowedLine();
            x.lines(bit);
            Check.due("rises", x.read(6), 17 * bit);
            x.lines(bit);
            Check.due("stays", x.read(6), 16 * bit);
            x.lines(0);
            Check.due("falls", x.read(6), bit);
            x.lines(bit);
            x.lines(0);
            Check.due("rises and falls", x.read(6), bit);
        }
    }

    private static void changesOfBit2WhenItFalls() {
        Check.sentence("bit 2 of CHANGES becomes 1 when that of INPUTS goes from 1 to 0");
        FlowedLine x = new FlowedLine();
        x.lines(4);
        Check.due("rises", x.read(6), 64);
        x.lines(4);
        Check.due("stays", x.read(6), 64);
        x.lines(0);
        Check.due("falls", x.read(6), 4);
        x.write(4, 20);
        Check.due("rises by the loop", x.read(6), 64);
        x.write(4, 4);
        Check.due("falls by the loop's end", x.read(6), 4);
        x.lines(4);
        x.lines(0);
        x.lines(4);
        Check.due("a fall is kept until it is read", x.read(6), 68);
    }

    private static void movingTheLastOneVacates() {
        Check.sentence("if OUT is empty then, VACATED comes on");
        FlowedLine x = Given.queued(0, 2);
        x.read(2);
        x.write(0, 1);
        Check.due("the only one moved", x.cause(), 2);
        x.write(0, 2);
        x.tick(1);
        Check.due("the last one moved", x.cause(), 2);
    }

    private static void movingAnotherDoesNot() {
        Check.sentence("if OUT is not empty then, VACATED does not come on");
        FlowedLine x = Given.queued(0, 2);
        for (int k = 0; k < 3; k++) {
            x.write(0, k);
        }
        Check.due("two wait", x.cause(), 1);
        x.tick(1);
        Check.due("one waits", x.count(3), 1);
        Check.due("and OUT is not vacated", x.cause(), 1);
        x.tick(1);
        Check.due("none waits", x.cause(), 2);
        x.read(2);
        x.tick(1);
        Check.due("leaving alone does not vacate", x.cause(), 1);
    }

    private static void arrivingMakesQuiet0() {
        Check.sentence("A character ARRIVES: QUIET becomes 0");
        FlowedLine x = Given.queued(3, 1);
        x.wire(1, 0);
        x.tick(4);
        Check.due("four ticks", x.cause(), 12);
        x.wire(2, 0);
        Check.due("begun again", x.cause(), 1);
        x.tick(3);
        Check.due("three ticks", x.cause(), 1);
        x.tick(1);
        Check.due("four ticks", x.cause(), 12);
    }

    private static void arrivingWithoutAPlaceWhenQueued() {
        Check.sentence("when there is no place in IN, OVERRUN comes on, and the character is lost if QUEUED is on");
        FlowedLine x = Given.queued(0, 0);
        Given.wired(x, 50, 16);
        Check.due("it comes on the line", x.wire(99, 7), true);
        Check.due("16 stay", x.count(2), 16);
        Check.due("OVERRUN, and no faults anywhere", x.read(5), 96 + 2 + 1);
        for (int k = 0; k < 16; k++) {
            Check.due("kept", x.read(0), 50 + k);
        }
        Check.due("and not that one", x.count(2), 0);
        x.wire(98, 0);
        Check.due("a place again", x.read(5), 97);
    }

    private static void arrivingWithoutAPlaceOtherwise() {
        Check.sentence("otherwise it takes the place (and faults) of the one that is there");
        FlowedLine x = new FlowedLine();
        x.wire(1, 6);
        x.wire(2, 1);
        Check.due("OVERRUN and PARITY", x.read(5), 96 + 2 + 1 + 4);
        Check.due("one", x.count(2), 1);
        Check.due("the later", x.read(0), 2);
        x.wire(3, 7);
        x.wire(4, 0);
        Check.due("OVERRUN and no faults", x.read(5), 96 + 2 + 1);
        Check.due("the later", x.read(0), 4);
    }

    private static void faultyComesFirst() {
        Check.sentence("6 FAULTY comes before 4 DATA");
        FlowedLine x = Given.queued(0, 15);
        x.wire(1, 2);
        x.lines(1);
        x.tick(4);
        Check.due("all hold", x.cause(), 6);
        x.read(5);
        Check.due("no faults any more", x.cause(), 4);
    }

    private static void faultyByOverrunAlone() {
        Check.sentence("6: OVERRUN is on (with IN empty too)");
        FlowedLine x = new FlowedLine();
        x.write(1, 4);
        x.wire(1, 0);
        Check.due("no OVERRUN", x.cause(), 1);
        x.wire(2, 0);
        Check.due("OVERRUN", x.cause(), 6);
        x.read(0);
        Check.due("IN is empty", x.cause(), 6);
        Check.due("STATUS", x.read(5), 98);
        Check.due("OVERRUN is off", x.cause(), 1);
    }

    private static void faultyByTheOldestAlone() {
        Check.sentence("6: the oldest of IN has faults (not a later one)");
        for (int faults = 0; faults < 8; faults++) {
            FlowedLine x = Given.queued(0, 4);
            x.wire(255, 0);
            x.wire(0, faults);
            Check.due("a later one has " + faults, x.cause(), 1);
            x.read(0);
            Check.due("the oldest has " + faults, x.cause(), faults == 0 ? 1 : 6);
            x.read(0);
            Check.due("IN is empty", x.cause(), 1);
        }
    }

    private static void dataAtTheLevel() {
        Check.sentence("4: IN has as many characters as the LEVEL or more");
        for (int place = 0; place < 4; place++) {
            FlowedLine x = Given.queued(place, 1);
            Given.wired(x, 1, LEVELS[place] - 1);
            Check.due("one fewer than " + LEVELS[place], x.cause(), 1);
            x.wire(1, 0);
            Check.due("as many as " + LEVELS[place], x.cause(), 4);
            x.wire(1, 0);
            Check.due("more than " + LEVELS[place], x.cause(), 4);
            x.read(0);
            x.read(0);
            Check.due("one fewer again", x.cause(), 1);
        }
    }

    private static void dataAtOneWhenNotQueued() {
        Check.sentence("4: one or more if QUEUED is off (whatever the LEVEL)");
        FlowedLine x = Given.queued(3, 1);
        x.write(2, 0);
        Check.due("none", x.cause(), 1);
        x.wire(1, 0);
        Check.due("one", x.cause(), 4);
        x.read(0);
        Check.due("none again", x.cause(), 1);
    }

    private static void dataComesBeforeQuiet() {
        Check.sentence("4 DATA comes before 12");
        FlowedLine x = Given.queued(1, 1);
        Given.wired(x, 1, 3);
        x.tick(4);
        Check.due("three of four", x.cause(), 12);
        x.wire(4, 0);
        x.tick(4);
        Check.due("four of four", x.cause(), 4);
    }

    private static void quietAtFourSpans() {
        Check.sentence("12: QUIET is 4 times the span or more");
        int[] spans = {1, 2, 25, 255, 256};
        for (int span : spans) {
            FlowedLine x = Given.queued(3, 1);
            Given.span(x, span % 256, span / 256, 3);
            x.wire(1, 0);
            Given.ticks(x, 4 * span - 1);
            Check.due("one tick fewer, span " + span, x.cause(), 1);
            x.tick(1);
            Check.due("as many, span " + span, x.cause(), 12);
            x.tick(100);
            Check.due("more, span " + span, x.cause(), 12);
        }
    }

    private static void quietNeedsOneInIn() {
        Check.sentence("12: IN is not empty");
        FlowedLine x = Given.queued(3, 1);
        x.tick(100);
        Check.due("none came", x.cause(), 1);
        x.wire(1, 0);
        x.tick(10);
        Check.due("one", x.cause(), 12);
        x.write(2, 195);
        Check.due("emptied", x.cause(), 1);
    }

    private static void quietComesBeforeRoom() {
        Check.sentence("12 comes before 2 ROOM");
        FlowedLine x = Given.queued(3, 3);
        Check.due("VACATED", x.cause(), 2);
        x.wire(1, 0);
        x.tick(3);
        Check.due("three ticks", x.cause(), 2);
        x.tick(1);
        Check.due("four ticks", x.cause(), 12);
    }

    private static void roomComesBeforeModem() {
        Check.sentence("2 ROOM comes before 0 MODEM");
        FlowedLine x = Given.queued(0, 10);
        x.lines(1);
        Check.due("VACATED", x.read(2), 194);
        Check.due("VACATED no more", x.read(2), 192);
    }

    private static void modemComesBeforeNone() {
        Check.sentence("0 MODEM is enabled and CHANGES is not 0; 1 none of these");
        for (int bit = 1; bit < 16; bit *= 2) {
            FlowedLine x = new FlowedLine();
            x.lines(15 - bit);
            x.lines(15);
            x.read(6);
            x.write(1, 8);
            Check.due("no changes", x.cause(), 1);
            x.lines(15 - bit);
            Check.due("a change of " + bit, x.cause(), 0);
            x.read(6);
            Check.due("and none", x.cause(), 1);
        }
    }

    private static void whatIsNotEnabledIsPassedOver() {
        Check.sentence("each cause only if its bit is enabled");
        int[] due = {1, 4, 2, 4, 6, 6, 6, 6, 0, 4, 2, 4, 6, 6, 6, 6};
        int[] quiet = {1, 12, 2, 12, 6, 6, 6, 6, 0, 12, 2, 12, 6, 6, 6, 6};
        for (int enabled = 0; enabled < 16; enabled++) {
            FlowedLine x = Given.queued(0, enabled);
            x.lines(1);
            x.wire(1, 1);
            x.tick(4);
            Check.due("LEVEL 1, ENABLED " + enabled, x.cause(), due[enabled]);
            x.write(2, 65);
            Check.due("LEVEL 4, ENABLED " + enabled, x.cause(), quiet[enabled]);
        }
    }

    private static void oneCauseAlone() {
        Check.sentence("each cause by its own bit (when no other holds)");
        for (int enabled = 0; enabled < 16; enabled++) {
            FlowedLine faulty = Given.queued(3, enabled);
            faulty.read(2);
            faulty.wire(1, 1);
            Check.due("faults, ENABLED " + enabled, faulty.cause(), (enabled & 4) != 0 ? 6 : 1);
            FlowedLine data = Given.queued(0, enabled);
            data.read(2);
            data.wire(1, 0);
            Check.due("data, ENABLED " + enabled, data.cause(), (enabled & 1) != 0 ? 4 : 1);
            FlowedLine room = Given.queued(0, enabled);
            Check.due("room, ENABLED " + enabled, room.cause(), (enabled & 2) != 0 ? 2 : 1);
            FlowedLine modem = Given.queued(0, enabled);
            modem.read(2);
            modem.lines(1);
            Check.due("changes, ENABLED " + enabled, modem.cause(), (enabled & 8) != 0 ? 0 : 1);
        }
    }

    private static void readingInWhenItIsEmpty() {
        Check.sentence("0: 0, and nothing happens, when IN is empty");
        FlowedLine x = emptyInAndOverrun();
        Check.due("empty", x.read(0), 0);
        Check.due("still empty", x.read(0), 0);
        Check.due("none", x.count(2), 0);
        Alike.due("after reading", x, emptyInAndOverrun());
        FlowedLine y = Given.queued(0, 0);
        y.read(0);
        y.wire(8, 0);
        Check.due("what comes then is first", y.read(0), 8);
    }

    private static FlowedLine emptyInAndOverrun() {
        FlowedLine x = new FlowedLine();
        x.write(1, 15);
        x.lines(3);
        x.wire(1, 7);
        x.wire(2, 3);
        x.read(0);
        return x;
    }

    private static void readingACharacterThatIs0() {
        Check.sentence("0: the oldest of IN is taken out and is the answer (a character 0 too), and QUIET becomes 0");
        FlowedLine x = Given.queued(3, 1);
        x.wire(0, 0);
        x.wire(5, 0);
        x.tick(4);
        Check.due("quiet", x.cause(), 12);
        Check.due("the character 0", x.read(0), 0);
        Check.due("was taken out", x.count(2), 1);
        Check.due("quiet no more", x.cause(), 1);
        x.tick(3);
        Check.due("three ticks later", x.cause(), 1);
        x.tick(1);
        Check.due("four ticks later", x.cause(), 12);
        Check.due("the next", x.read(0), 5);
    }

    private static void readingLowAndHigh() {
        Check.sentence("0: LOW, 1: HIGH, if bit 7 of FORMAT is 1");
        FlowedLine x = new FlowedLine();
        x.wire(77, 0);
        x.write(1, 9);
        x.write(3, 128);
        Check.due("LOW", x.read(0), 1);
        Check.due("HIGH", x.read(1), 0);
        Check.due("nothing was taken out", x.count(2), 1);
        x.write(3, 127);
        Check.due("ENABLED", x.read(1), 9);
        Check.due("IN", x.read(0), 77);
    }

    private static void readingTheCausePutsVacatedOff() {
        Check.sentence("2: the cause, and 192 more if QUEUED is on; if it is 2, VACATED goes off");
        FlowedLine x = Given.queued(0, 2);
        Check.due("2 and 192", x.read(2), 194);
        Check.due("VACATED is off", x.read(2), 193);
        FlowedLine y = new FlowedLine();
        y.write(1, 3);
        y.wire(1, 0);
        Check.due("4 does not put it off", y.read(2), 4);
        y.write(1, 2);
        Check.due("2", y.read(2), 2);
        Check.due("VACATED is off", y.read(2), 1);
        FlowedLine z = Given.queued(3, 7);
        z.wire(1, 1);
        Check.due("6 does not put it off", z.read(2), 198);
        z.read(5);
        z.tick(4);
        Check.due("12 does not put it off", z.read(2), 204);
        z.read(0);
        Check.due("2 and 192", z.read(2), 194);
        Check.due("VACATED is off", z.read(2), 193);
    }

    private static void readingStatusOfAnEmptyIn() {
        Check.sentence("5: IN is not empty; OVERRUN; after that OVERRUN is off");
        FlowedLine x = emptyInAndOverrun();
        Check.due("IN empty, OVERRUN", x.read(5), 98);
        Check.due("OVERRUN off", x.read(5), 96);
        x.wire(255, 0);
        Check.due("one, without the faults of before", x.read(5), 97);
        x.read(0);
        Check.due("empty", x.read(5), 96);
    }

    private static void readingStatusOfOut() {
        Check.sentence("5: OUT is empty; OUT is empty and the shifter idle");
        FlowedLine x = new FlowedLine();
        Check.due("both", x.read(5), 96);
        x.write(0, 1);
        Check.due("the shifter is not", x.read(5), 32);
        x.write(0, 2);
        Check.due("neither", x.read(5), 0);
        x.tick(1);
        Check.due("the shifter is not", x.read(5), 32);
        x.tick(1);
        Check.due("both", x.read(5), 96);
    }

    private static void readingStatusOfSomeFaults() {
        Check.sentence("5: QUEUED is on and some character of IN has faults");
        for (int place = 0; place < 16; place++) {
            FlowedLine x = Given.queued(0, 0);
            for (int k = 0; k < 16; k++) {
                x.wire(k == place ? 0 : 255, k == place ? 1 : 0);
            }
            Check.due("the one at place " + place, x.read(5), 97 + 128 + (place == 0 ? 4 : 0));
            Check.due("and then", x.read(5), 97 + (place == 0 ? 0 : 128));
        }
        FlowedLine y = new FlowedLine();
        y.wire(1, 7);
        Check.due("QUEUED is off", y.read(5), 97 + 28);
    }

    private static void readingStatusOfWhatIsGone() {
        Check.sentence("5: of IN (not of what was taken out or emptied)");
        FlowedLine x = Given.queued(0, 4);
        x.wire(1, 7);
        x.write(2, 3);
        Check.due("emptied, no cause", x.cause(), 1);
        Check.due("emptied", x.read(5), 96);
        x.wire(2, 7);
        x.read(0);
        Check.due("taken out", x.read(5), 96);
        x.wire(3, 0);
        Check.due("one behind it", x.read(5), 97);
        x.wire(4, 7);
        x.write(2, 3);
        x.wire(5, 0);
        Check.due("one in the place of those emptied", x.read(5), 97);
    }

    private static void readingStatusClearsTheOldestAlone() {
        Check.sentence("5: after that the oldest of IN has no faults any more");
        FlowedLine x = Given.queued(0, 0);
        x.wire(200, 1);
        x.wire(201, 2);
        x.wire(202, 4);
        for (int k = 0; k < 3; k++) {
            Check.due("faults of " + (200 + k), x.read(5), 97 + 128 + (4 << k));
            Check.due("none any more", x.read(5), k < 2 ? 97 + 128 : 97);
            Check.due("the character stays", x.read(0), 200 + k);
        }
    }

    private static void readingChangesClearsThem() {
        Check.sentence("6: CHANGES, and 16 times INPUTS; CHANGES is 0 then");
        FlowedLine x = new FlowedLine();
        x.lines(15);
        x.lines(0);
        x.lines(15);
        Check.due("all", x.read(6), 255);
        Check.due("none", x.read(6), 240);
    }

    private static FlowedLine outFull(int levelPlace, int places) {
        FlowedLine x = levelPlace < 0 ? new FlowedLine() : Given.queued(levelPlace, 0);
        Given.span(x, 9, 0, 3);
        x.write(1, 2);
        for (int k = 0; k <= places; k++) {
            x.write(0, 40 + k);
        }
        return x;
    }

    private static void writingWhenOutHasNoPlace() {
        Check.sentence("0: v comes to the end of OUT, if there is a place (otherwise it is lost)");
        FlowedLine x = outFull(0, 16);
        Check.due("true all the same", x.write(0, 99), true);
        Check.due("16", x.count(3), 16);
        Alike.due("QUEUED on", x, outFull(0, 16));
        FlowedLine y = outFull(-1, 1);
        Check.due("true all the same", y.write(0, 99), true);
        Check.due("one", y.count(3), 1);
        Alike.due("QUEUED off", y, outFull(-1, 1));
    }

    private static void writingPutsVacatedOff() {
        Check.sentence("0: VACATED goes off");
        FlowedLine x = Given.queued(0, 2);
        x.write(0, 1);
        Check.due("moving put it on again", x.cause(), 2);
        x.write(0, 2);
        Check.due("off", x.cause(), 1);
        FlowedLine y = new FlowedLine();
        y.write(1, 2);
        y.write(3, 128);
        y.write(0, 2);
        Check.due("not by writing LOW", y.cause(), 2);
    }

    private static void enablingRoomWhenOutIsEmpty() {
        Check.sentence("1: if ROOM was not enabled and is now, and OUT is empty, VACATED comes on");
        FlowedLine x = new FlowedLine();
        x.write(0, 1);
        x.write(0, 2);
        x.tick(1);
        x.write(1, 2);
        Check.due("OUT empty, the shifter busy", x.read(2), 2);
        x.tick(1);
        x.write(1, 13);
        Check.due("ROOM not enabled", x.read(2), 1);
        x.write(1, 15);
        Check.due("OUT empty, the shifter idle", x.read(2), 2);
        x.write(1, 13);
        x.write(1, 253);
        Check.due("not by another bit", x.read(2), 1);
    }

    private static void enablingRoomWhenOutIsNot() {
        Check.sentence("1: VACATED does not come on when OUT is not empty");
        FlowedLine x = new FlowedLine();
        x.write(0, 1);
        x.write(0, 2);
        x.write(1, 2);
        Check.due("one waits", x.cause(), 1);
        x.tick(1);
        Check.due("none waits", x.cause(), 2);
    }

    private static void enablingRoomThatWasEnabled() {
        Check.sentence("1: VACATED does not come on when ROOM was enabled before");
        FlowedLine x = new FlowedLine();
        x.write(1, 2);
        Check.due("at first", x.read(2), 2);
        x.write(1, 2);
        x.write(1, 15);
        Check.due("not again", x.read(2), 1);
    }

    private static FlowedLine threeEachWay() {
        FlowedLine x = Given.queued(0, 0);
        Given.wired(x, 1, 3);
        for (int k = 0; k < 4; k++) {
            x.write(0, k);
        }
        return x;
    }

    private static FlowedLine oneEachWay() {
        FlowedLine x = new FlowedLine();
        x.wire(1, 0);
        x.write(0, 1);
        x.write(0, 2);
        return x;
    }

    private static void dueCounts(String what, FlowedLine x, int in, int out) {
        Check.due(what + ": IN", x.count(2), in);
        Check.due(what + ": OUT", x.count(3), out);
    }

    private static void queuedThatChangesEmptiesBoth() {
        Check.sentence("2: QUEUED becomes bit 0 of v; if it changes, IN and OUT are emptied");
        FlowedLine x = threeEachWay();
        x.wire(9, 7);
        x.write(2, 0);
        dueCounts("off", x, 0, 0);
        Check.due("no faults are left", x.read(5), 32);
        Check.due("nothing to read", x.read(0), 0);
        Check.due("the shifter goes on", x.left(), 1);
        FlowedLine y = oneEachWay();
        y.write(2, 1);
        dueCounts("on", y, 0, 0);
        Check.due("the shifter goes on", y.left(), 1);
    }

    private static void queuedThatStaysEmptiesNone() {
        Check.sentence("2: what does not change QUEUED does not empty (but by bits 1 and 2)");
        FlowedLine x = threeEachWay();
        x.write(2, 1 + 8 + 16 + 32 + 192);
        dueCounts("on stays on", x, 3, 3);
        FlowedLine y = oneEachWay();
        y.write(2, 0);
        dueCounts("off stays off", y, 1, 1);
    }

    private static void queuedOnEmptiesByItsBits() {
        Check.sentence("2: if it is on now: IN is emptied if bit 1 of v is 1, OUT if bit 2 is");
        FlowedLine x = threeEachWay();
        x.write(2, 3);
        dueCounts("bit 1", x, 0, 3);
        x.wire(1, 0);
        x.write(2, 5);
        dueCounts("bit 2", x, 1, 0);
        x.write(0, 8);
        x.write(2, 7);
        dueCounts("both", x, 0, 0);
    }

    private static void queuedOffHasNoBits() {
        Check.sentence("2: bits 1 and 2 of v count only if QUEUED is on now");
        FlowedLine x = oneEachWay();
        x.write(2, 254);
        dueCounts("off", x, 1, 1);
    }

    private static void queuedSetsTheLevel() {
        Check.sentence("2: LEVEL becomes 1, 4, 8, 14 for v >> 6 = 0, 1, 2, 3");
        FlowedLine x = Given.queued(3, 1);
        Given.wired(x, 1, 14);
        for (int n = 14; n > 0; n--) {
            for (int place = 0; place < 4; place++) {
                x.write(2, 64 * place + 1 + 56);
                Check.due(n + " at LEVEL " + LEVELS[place], x.cause(), n >= LEVELS[place] ? 4 : 1);
            }
            x.read(0);
        }
    }

    private static void emptyingOutVacates() {
        Check.sentence("2: when OUT was not empty and is now, VACATED comes on");
        int[] emptying = {0, 5, 7, 6};
        for (int v : emptying) {
            FlowedLine x = threeEachWay();
            x.write(1, 2);
            Check.due("three wait", x.cause(), 1);
            x.write(2, v);
            Check.due("emptied by " + v, x.cause(), 2);
        }
        FlowedLine y = oneEachWay();
        y.write(1, 2);
        y.write(2, 1);
        Check.due("emptied by 1, when QUEUED was off", y.cause(), 2);
    }

    private static void emptyingAnEmptyOutDoesNot() {
        Check.sentence("2: when OUT was empty, or is not now, VACATED does not come on");
        int[] given = {1, 5, 0, 0, 7, 4};
        FlowedLine x = Given.queued(0, 2);
        x.read(2);
        for (int v : given) {
            x.write(2, v);
            Check.due("OUT was empty, " + v, x.cause(), 1);
        }
        FlowedLine y = threeEachWay();
        y.write(1, 2);
        y.write(2, 3);
        Check.due("OUT is not empty", y.cause(), 1);
    }

    private static void writingTo5And6() {
        Check.sentence("5, 6: nothing");
        FlowedLine x = Given.busy();
        Check.due("write(5, 255)", x.write(5, 255), true);
        Check.due("write(6, 255)", x.write(6, 255), true);
        Alike.due("after 5 and 6", x, Given.busy());
    }

    private static void writingToOneRegisterAlone() {
        Check.sentence("1, 3, 4, 7: that register becomes v, and no other");
        int[] plain = {1, 3, 4, 7};
        for (int a : plain) {
            FlowedLine x = new FlowedLine();
            x.write(a, 9);
            for (int other : plain) {
                Check.due("register " + other + " after " + a, x.read(other), other == a ? 9 : 0);
            }
        }
    }

    private static void leavesWithNoTickLeft() {
        Check.sentence("A TICK: one tick less to go; with none left the character leaves, and the shifter is idle");
        FlowedLine x = new FlowedLine();
        Given.span(x, 3, 0, 3);
        x.write(0, 5);
        for (int k = 3; k > 1; k--) {
            Check.due("to go", x.left(), k);
            Check.due("not yet", x.tick(1), 0);
            Check.due("none sent", x.total(), 0);
        }
        Check.due("the last", x.left(), 1);
        Check.due("it leaves", x.tick(1), 1);
        Check.due("idle", x.left(), 0);
        Check.due("sent", x.sent(0), 5);
        Check.due("only once", x.tick(100), 0);
    }

    private static void leavesByTheFormat() {
        Check.sentence("it leaves as c & (2^(5 + f) - 1), f being FORMAT & 3");
        int[] masks = {31, 63, 127, 255};
        int[] characters = {0, 31, 32, 63, 64, 127, 128, 255};
        for (int f = 0; f < 4; f++) {
            FlowedLine x = new FlowedLine();
            x.write(3, 124 + f);
            for (int c : characters) {
                x.write(0, c);
                x.tick(1);
                Check.due(c + " by FORMAT " + f, x.sent(0), c & masks[f]);
            }
        }
    }

    private static void loopedArrivesWithoutFaults() {
        Check.sentence("with LOOP on it arrives, without faults; otherwise it is sent");
        FlowedLine x = new FlowedLine();
        x.write(3, 3);
        x.write(4, 16);
        x.write(0, 255);
        Check.due("it leaves", x.tick(1), 1);
        Check.due("it was not sent", x.total(), 0);
        Check.due("without faults", x.read(5), 97);
        Check.due("it arrived", x.read(0), 255);
        x.write(0, 254);
        x.write(4, 15);
        Check.due("it leaves", x.tick(1), 1);
        Check.due("it was sent", x.sent(0), 254);
        Check.due("it did not arrive", x.count(2), 0);
    }

    private static void loopedArrivesWithoutAPlace() {
        Check.sentence("with LOOP on it arrives (when IN has no place too)");
        FlowedLine x = new FlowedLine();
        x.wire(1, 7);
        x.write(4, 16);
        x.write(0, 2);
        x.tick(1);
        Check.due("OVERRUN, and the faults are gone", x.read(5), 99);
        Check.due("in its place", x.read(0), 2);
        FlowedLine y = Given.queued(0, 0);
        Given.wired(y, 10, 16);
        y.write(4, 16);
        y.write(0, 2);
        Check.due("it leaves", y.tick(1), 1);
        Check.due("OVERRUN", y.read(5), 99);
        Check.due("16 stay", y.count(2), 16);
        Check.due("the oldest stays", y.read(0), 10);
    }

    private static void movesInTheTickOfLeaving() {
        Check.sentence("2. A character moves, if it can (in the tick in which one left)");
        FlowedLine x = new FlowedLine();
        Given.span(x, 2, 0, 3);
        x.write(0, 1);
        x.write(0, 2);
        x.tick(1);
        Check.due("not yet", x.count(3), 1);
        x.tick(1);
        Check.due("moved", x.count(3), 0);
        Check.due("with the whole span", x.left(), 2);
        Check.due("both after two spans", x.tick(2), 1);
    }

    private static void quietGrowsInTheTickOfArriving() {
        Check.sentence("3. If IN is not empty, QUIET grows by 1 (after what arrived in that tick)");
        FlowedLine x = Given.queued(3, 1);
        x.write(4, 16);
        x.write(0, 1);
        x.tick(3);
        Check.due("three ticks with the first", x.cause(), 1);
        x.tick(1);
        Check.due("four ticks with the first", x.cause(), 12);
    }
}
