/** Whether two objects stand in the same state, as far as calls can tell. */
final class Alike {
    private Alike() {
    }

    /** Reads out all that can be read of both, which leaves them of no use for more. */
    static void due(String what, FlowedLine x, FlowedLine y) {
        looks(what, x, y);
        registers(what, x, y);
        for (int k = 0; k < 25; k++) {
            Check.due(what + ": then take()", x.take(), y.take());
        }
        Check.due(what + ": then flow()", x.flow(), y.flow());
        sendAll(x);
        sendAll(y);
        looks(what + ": at the end", x, y);
    }

    private static void looks(String what, FlowedLine x, FlowedLine y) {
        Check.due(what + ": cause()", x.cause(), y.cause());
        Check.due(what + ": flow()", x.flow(), y.flow());
        Check.due(what + ": lost()", x.lost(), y.lost());
        Check.due(what + ": left()", x.left(), y.left());
        Check.due(what + ": total()", x.total(), y.total());
        for (int which = 0; which < 4; which++) {
            Check.due(what + ": count(" + which + ")", x.count(which), y.count(which));
        }
        for (int k = 0; k < 32; k++) {
            Check.due(what + ": sent(" + k + ")", x.sent(k), y.sent(k));
        }
    }

    private static void registers(String what, FlowedLine x, FlowedLine y) {
        int[] inThisOrder = {3, 4, 7, 1, 6, 2, 2, 5, 2};
        for (int a : inThisOrder) {
            Check.due(what + ": then read(" + a + ")", x.read(a), y.read(a));
        }
        otherBank(x);
        otherBank(y);
        Check.due(what + ": LOW", x.read(0), y.read(0));
        Check.due(what + ": HIGH", x.read(1), y.read(1));
        x.write(3, 3);
        y.write(3, 3);
        for (int k = 0; k < 17; k++) {
            Check.due(what + ": STATUS", x.read(5), y.read(5));
            Check.due(what + ": IN", x.read(0), y.read(0));
        }
    }

    private static void otherBank(FlowedLine x) {
        x.write(3, x.read(3) | 128);
    }

    /** Lets OUT and FORTH go, through a driver that is told to go on. */
    private static void sendAll(FlowedLine x) {
        x.write(4, 0);
        Given.span(x, 1, 0, 3);
        x.write(1, 7);
        x.wire(17, 0);
        x.tick(4);
        for (int k = 0; k < 3; k++) {
            x.service();
            x.tick(100);
        }
    }
}
