/** A serial port with its eight registers, and the driver that works it from its interrupts. */
public final class FlowedLine {
    public static final int NONE = -1;

    private static final int MOST_TICKS = 100;
    private static final int MOST_ROUNDS = 8;

    private final Port port;
    private final Driver driver;

    public FlowedLine() {
        port = new Port();
        driver = new Driver(port);
    }

    public int read(int a) {
        return Port.hasRegister(a) ? port.load(a) : NONE;
    }

    public boolean write(int a, int v) {
        if (!Port.hasRegister(a)) {
            return false;
        }
        port.store(a, v);
        return true;
    }

    public boolean wire(int c, int faults) {
        if (faults < 0 || faults > 7 || port.modem.isLooped()) {
            return false;
        }
        port.arrive(c & 255, faults);
        return true;
    }

    public int tick(int n) {
        if (n < 1 || n > MOST_TICKS) {
            return NONE;
        }
        int gone = 0;
        for (int k = 0; k < n; k++) {
            if (port.passTick()) {
                gone++;
            }
        }
        return gone;
    }

    public void lines(int bits) {
        port.modem.setLines(bits & 15);
    }

    public int sent(int k) {
        return port.log.backFromLatest(k);
    }

    public int total() {
        return port.log.size;
    }

    public int cause() {
        return port.findCause();
    }

    public void start() {
        driver.begin();
    }

    public boolean accept(int c) {
        return driver.queueForth(c & 255);
    }

    public int take() {
        return driver.takeBack();
    }

    public int service() {
        int rounds = 0;
        while (rounds < MOST_ROUNDS && driver.runRound()) {
            rounds++;
        }
        return rounds;
    }

    public int count(int which) {
        switch (which) {
            case 0:
                return driver.back.size;
            case 1:
                return driver.forth.size;
            case 2:
                return port.in.size;
            case 3:
                return port.out.size;
            default:
                return NONE;
        }
    }

    public int flow() {
        return driver.flowBits();
    }

    public int lost() {
        return driver.lostCount;
    }

    public int left() {
        return port.ticksToGo;
    }

    /** A first-in, first-out row; its array has 32 places so that a mask keeps every index inside. */
    private static final class Ring {
        private static final int MASK = 31;

        final int[] places = new int[MASK + 1];
        int limit;
        int first;
        int size;

        Ring(int limit) {
            this.limit = limit;
        }

        boolean isFull() {
            return size >= limit;
        }

        void clear() {
            size = 0;
        }

        void append(int item) {
            if (size < limit) {
                places[(first + size) & MASK] = item;
                size++;
            }
        }

        /** The oldest item, 0 when there is none. */
        int oldest() {
            return size > 0 ? places[first & MASK] : 0;
        }

        void replaceOldest(int item) {
            if (size > 0) {
                places[first & MASK] = item;
            }
        }

        /** The oldest item, taken out; 0 when there is none. */
        int removeOldest() {
            if (size == 0) {
                return 0;
            }
            int item = places[first & MASK];
            first = (first + 1) & MASK;
            size--;
            return item;
        }

        boolean hasItemAbove(int bound) {
            for (int k = 0; k < size; k++) {
                if (places[(first + k) & MASK] > bound) {
                    return true;
                }
            }
            return false;
        }
    }

    /** The characters that went out on the line: all are counted, the latest 32 are kept. */
    private static final class SentLog {
        private static final int MASK = 31;

        final int[] latest = new int[MASK + 1];
        int size;

        void add(int c) {
            latest[size & MASK] = c;
            size++;
        }

        int backFromLatest(int k) {
            if (k < 0 || k > MASK || k >= size) {
                return NONE;
            }
            return latest[(size - 1 - k) & MASK];
        }
    }

    /** CONTROL, and the INPUTS and CHANGES that hang on it. */
    private static final class Modem {
        private static final int LOOP = 16;
        /** Bit 2 of CHANGES tells only of a fall; the others tell of every change. */
        private static final int BOTH_WAYS = 11;
        private static final int FALL_ONLY = 4;

        int control;
        int changes;
        int given;

        boolean isLooped() {
            return (control & LOOP) != 0;
        }

        int inputs() {
            if (!isLooped()) {
                return given;
            }
            return (control & 12) | ((control & 1) << 1) | ((control >> 1) & 1);
        }

        void setLines(int bits) {
            int before = inputs();
            given = bits;
            noteChanges(before);
        }

        void setControl(int bits) {
            int before = inputs();
            control = bits;
            noteChanges(before);
        }

        void noteChanges(int before) {
            int now = inputs();
            changes |= (before ^ now) & BOTH_WAYS;
            changes |= before & ~now & FALL_ONLY;
        }

        int readChanges() {
            int answer = changes + 16 * inputs();
            changes = 0;
            return answer;
        }
    }

    /** The port: its registers, IN, OUT and the shifter. */
    private static final class Port {
        private static final int[] LEVELS = {1, 4, 8, 14};
        private static final int QUEUED_PLACES = 16;
        private static final int QUEUED_MARK = 192;
        private static final int OTHER_BANK = 128;

        private static final int DATA = 1;
        private static final int ROOM = 2;
        private static final int FAULTY = 4;
        private static final int MODEM = 8;

        /** Each item is a character and 256 times its faults, so that both move together. */
        final Ring in = new Ring(1);
        final Ring out = new Ring(1);
        final Modem modem = new Modem();
        final SentLog log = new SentLog();

        boolean queued;
        int level = 1;
        int enabled;
        int format;
        int spare;
        int low = 1;
        int high;
        boolean overrun;
        boolean vacated;
        int quiet;
        int shifting;
        /** 0 is the idle shifter: a span is never less than 1. */
        int ticksToGo;

        static boolean hasRegister(int a) {
            return a >= 0 && a <= 7;
        }

        int load(int a) {
            switch (a) {
                case 0:
                    return usesOtherBank() ? low : takeIn();
                case 1:
                    return usesOtherBank() ? high : enabled;
                case 2:
                    return identify();
                case 3:
                    return format;
                case 4:
                    return modem.control;
                case 5:
                    return readStatus();
                case 6:
                    return modem.readChanges();
                default:
                    return spare;
            }
        }

        void store(int a, int v) {
            int b = v & 255;
            switch (a) {
                case 0:
                    if (usesOtherBank()) {
                        low = b;
                    } else {
                        storeData(b);
                    }
                    break;
                case 1:
                    if (usesOtherBank()) {
                        high = b;
                    } else {
                        storeEnabled(b);
                    }
                    break;
                case 2:
                    storeQueueing(b);
                    break;
                case 3:
                    format = b;
                    break;
                case 4:
                    modem.setControl(b & 31);
                    break;
                case 7:
                    spare = b;
                    break;
                default:
                    break;
            }
        }

        boolean usesOtherBank() {
            return (format & OTHER_BANK) != 0;
        }

        int span() {
            int ticks = low + 256 * high;
            return ticks == 0 ? 1 : ticks;
        }

        int findCause() {
            if ((enabled & FAULTY) != 0 && (overrun || in.oldest() > 255)) {
                return 6;
            }
            if ((enabled & DATA) != 0 && in.size >= (queued ? level : 1)) {
                return 4;
            }
            if ((enabled & DATA) != 0 && queued && in.size > 0 && quiet >= 4 * span()) {
                return 12;
            }
            if ((enabled & ROOM) != 0 && vacated) {
                return 2;
            }
            if ((enabled & MODEM) != 0 && modem.changes != 0) {
                return 0;
            }
            return 1;
        }

        int identify() {
            int cause = findCause();
            if (cause == 2) {
                vacated = false;
            }
            return queued ? cause + QUEUED_MARK : cause;
        }

        int takeIn() {
            if (in.size > 0) {
                quiet = 0;
            }
            return in.removeOldest() & 255;
        }

        int readStatus() {
            int status = in.size > 0 ? 1 : 0;
            status += overrun ? 2 : 0;
            status += 4 * (in.oldest() >> 8);
            status += out.size == 0 ? 32 : 0;
            status += out.size == 0 && ticksToGo == 0 ? 64 : 0;
            status += queued && in.hasItemAbove(255) ? 128 : 0;
            overrun = false;
            in.replaceOldest(in.oldest() & 255);
            return status;
        }

        void storeData(int b) {
            vacated = false;
            out.append(b);
            moveIfPossible();
        }

        void storeEnabled(int b) {
            boolean roomIsNew = (enabled & ROOM) == 0 && (b & ROOM) != 0;
            enabled = b & 15;
            if (roomIsNew && out.size == 0) {
                vacated = true;
            }
        }

        void storeQueueing(int b) {
            boolean outHadSome = out.size > 0;
            boolean nowQueued = (b & 1) != 0;
            boolean changed = nowQueued != queued;
            queued = nowQueued;
            if (changed || (queued && (b & 2) != 0)) {
                in.clear();
            }
            if (changed || (queued && (b & 4) != 0)) {
                out.clear();
            }
            in.limit = queued ? QUEUED_PLACES : 1;
            out.limit = in.limit;
            if (queued) {
                level = LEVELS[(b >> 6) & 3];
            }
            if (outHadSome && out.size == 0) {
                vacated = true;
            }
        }

        void moveIfPossible() {
            if (ticksToGo > 0 || out.size == 0) {
                return;
            }
            shifting = out.removeOldest();
            ticksToGo = span();
            if (out.size == 0) {
                vacated = true;
            }
        }

        void arrive(int c, int faults) {
            int item = c + 256 * faults;
            quiet = 0;
            if (!in.isFull()) {
                in.append(item);
                return;
            }
            overrun = true;
            if (!queued) {
                in.replaceOldest(item);
            }
        }

        /** Answers whether a character left. */
        boolean passTick() {
            boolean leaves = ticksToGo == 1;
            if (ticksToGo > 0) {
                ticksToGo--;
            }
            if (leaves) {
                sendOff(shifting & ((32 << (format & 3)) - 1));
            }
            moveIfPossible();
            if (in.size > 0) {
                quiet++;
            }
            return leaves;
        }

        void sendOff(int c) {
            if (modem.isLooped()) {
                arrive(c, 0);
            } else {
                log.add(c);
            }
        }
    }

    /** The driver; of the port it uses load and store alone. */
    private static final class Driver {
        private static final int RING_PLACES = 24;
        private static final int ASK_FROM = 18;
        private static final int RELEASE_AT = 6;
        private static final int MOST_WRITTEN = 16;
        private static final int MOST_LOOKS = 17;
        private static final int GO_ON = 17;
        private static final int STOP = 19;
        private static final int ROOM_BIT = 2;

        final Ring forth = new Ring(RING_PLACES);
        final Ring back = new Ring(RING_PLACES);
        final Port port;
        boolean held;
        boolean asked;
        /** GO_ON, STOP or NONE. */
        int urgent = NONE;
        int lostCount;

        Driver(Port port) {
            this.port = port;
        }

        void begin() {
            forth.clear();
            back.clear();
            held = false;
            asked = false;
            urgent = NONE;
            port.store(2, 71);
            port.store(3, 3);
            port.store(1, 7);
        }

        boolean queueForth(int c) {
            if (forth.isFull()) {
                return false;
            }
            forth.append(c);
            wake();
            return true;
        }

        int takeBack() {
            if (back.size == 0) {
                return NONE;
            }
            int c = back.removeOldest();
            if (asked && back.size <= RELEASE_AT) {
                urgent = GO_ON;
                asked = false;
                wake();
            }
            return c;
        }

        void wake() {
            port.store(1, port.load(1) | ROOM_BIT);
        }

        /** Answers false when this round ends the service. */
        boolean runRound() {
            switch (port.load(2) & 15) {
                case 6:
                    readStatus();
                    return true;
                case 4:
                case 12:
                    receive();
                    return true;
                case 2:
                    transmit();
                    return true;
                case 0:
                    port.load(6);
                    return true;
                default:
                    return false;
            }
        }

        int readStatus() {
            int status = port.load(5);
            if ((status & 2) != 0) {
                lostCount++;
            }
            return status;
        }

        void receive() {
            for (int look = 1; look <= MOST_LOOKS; look++) {
                int status = readStatus();
                if ((status & 1) == 0 || look == MOST_LOOKS) {
                    return;
                }
                handle(port.load(0));
            }
        }

        void handle(int c) {
            if (c == STOP) {
                held = true;
            } else if (c == GO_ON) {
                held = false;
                wake();
            } else if (back.isFull()) {
                lostCount++;
            } else {
                back.append(c);
                if (back.size >= ASK_FROM && !asked) {
                    urgent = STOP;
                    asked = true;
                    wake();
                }
            }
        }

        void transmit() {
            int written = 0;
            if (urgent != NONE) {
                port.store(0, urgent);
                urgent = NONE;
                written = 1;
            }
            while (written < MOST_WRITTEN && !held && forth.size > 0) {
                port.store(0, forth.removeOldest());
                written++;
            }
            if (written == 0) {
                port.store(1, port.load(1) & ~ROOM_BIT);
            }
        }

        int flowBits() {
            int bits = held ? 1 : 0;
            bits += asked ? 2 : 0;
            bits += urgent == GO_ON ? 4 : 0;
            bits += urgent == STOP ? 8 : 0;
            return bits;
        }
    }
}
