import java.util.ArrayDeque;
import java.util.ArrayList;
import java.util.Arrays;

/** The document's terms a second time, in the plainest words of the Java library, to compare with. */
final class PlainModel {
    static final class Came {
        final int c;
        int faults;

        Came(int c, int faults) {
            this.c = c;
            this.faults = faults;
        }
    }

    private final ArrayDeque<Came> in = new ArrayDeque<>();
    private final ArrayDeque<Integer> out = new ArrayDeque<>();
    private final ArrayDeque<Integer> forth = new ArrayDeque<>();
    private final ArrayDeque<Integer> back = new ArrayDeque<>();
    private final ArrayList<Integer> sent = new ArrayList<>();
    private final boolean[] changes = new boolean[4];
    private boolean[] inputs = new boolean[4];
    private boolean[] given = new boolean[4];
    private Integer shifter = null;
    private Integer urgent = null;
    private int toGo;
    private int level = 1;
    private int enabled;
    private int format;
    private int control;
    private int spare;
    private int low = 1;
    private int high;
    private int quiet;
    private int lost;
    private boolean queued;
    private boolean overrun;
    private boolean vacated;
    private boolean held;
    private boolean asked;

    private static boolean bit(int v, int k) {
        return v / (1 << k) % 2 == 1;
    }

    private int places() {
        return queued ? 16 : 1;
    }

    private int span() {
        int span = low + 256 * high;
        return span == 0 ? 1 : span;
    }

    private void moveIfItCan() {
        if (shifter == null && !out.isEmpty()) {
            shifter = out.pollFirst();
            toGo = span();
            if (out.isEmpty()) {
                vacated = true;
            }
        }
    }

    private void arrives(int c, int faults) {
        quiet = 0;
        if (in.size() == places()) {
            overrun = true;
            if (queued) {
                return;
            }
            in.clear();
        }
        in.addLast(new Came(c, faults));
    }

    private void inputsBecome(boolean[] now) {
        for (int k = 0; k < 4; k++) {
            if (k == 2 ? inputs[k] && !now[k] : inputs[k] != now[k]) {
                changes[k] = true;
            }
        }
        inputs = now.clone();
    }

    private void inputsAnew() {
        if (bit(control, 4)) {
            inputsBecome(new boolean[] {bit(control, 1), bit(control, 0), bit(control, 2), bit(control, 3)});
        } else {
            inputsBecome(given);
        }
    }

    private boolean anyChange() {
        return changes[0] || changes[1] || changes[2] || changes[3];
    }

    int cause() {
        boolean data = bit(enabled, 0);
        boolean oldestFaulty = !in.isEmpty() && in.peekFirst().faults != 0;
        if (bit(enabled, 2) && (overrun || oldestFaulty)) {
            return 6;
        }
        if (data && (queued ? in.size() >= level : !in.isEmpty())) {
            return 4;
        }
        if (data && queued && !in.isEmpty() && quiet >= 4 * span()) {
            return 12;
        }
        if (bit(enabled, 1) && vacated) {
            return 2;
        }
        return bit(enabled, 3) && anyChange() ? 0 : 1;
    }

    private int status() {
        int[] bits = new int[8];
        Came oldest = in.peekFirst();
        bits[0] = oldest == null ? 0 : 1;
        bits[1] = overrun ? 1 : 0;
        for (int k = 0; k < 3; k++) {
            bits[2 + k] = oldest != null && bit(oldest.faults, k) ? 1 : 0;
        }
        bits[5] = out.isEmpty() ? 1 : 0;
        bits[6] = out.isEmpty() && shifter == null ? 1 : 0;
        for (Came one : in) {
            if (queued && one.faults != 0) {
                bits[7] = 1;
            }
        }
        overrun = false;
        if (oldest != null) {
            oldest.faults = 0;
        }
        int sum = 0;
        for (int k = 0; k < 8; k++) {
            sum += bits[k] << k;
        }
        return sum;
    }

    private int modem() {
        int sum = 0;
        for (int k = 0; k < 4; k++) {
            sum += changes[k] ? 1 << k : 0;
            sum += inputs[k] ? 16 << k : 0;
        }
        Arrays.fill(changes, false);
        return sum;
    }

    private int data() {
        if (in.isEmpty()) {
            return 0;
        }
        quiet = 0;
        return in.pollFirst().c;
    }

    int read(int a) {
        boolean latch = format >= 128;
        switch (a) {
            case 0: return latch ? low : data();
            case 1: return latch ? high : enabled;
            case 2: {
                int cause = cause();
                if (cause == 2) {
                    vacated = false;
                }
                return cause + (queued ? 192 : 0);
            }
            case 3: return format;
            case 4: return control;
            case 5: return status();
            case 6: return modem();
            case 7: return spare;
            default: return -1;
        }
    }

    boolean write(int a, int given) {
        int v = Math.floorMod(given, 256);
        boolean latch = format >= 128;
        switch (a) {
            case 0:
                if (latch) {
                    low = v;
                } else {
                    vacated = false;
                    if (out.size() < places()) {
                        out.addLast(v);
                    }
                    moveIfItCan();
                }
                return true;
            case 1:
                if (latch) {
                    high = v;
                } else {
                    boolean was = bit(enabled, 1);
                    enabled = v % 16;
                    if (!was && bit(enabled, 1) && out.isEmpty()) {
                        vacated = true;
                    }
                }
                return true;
            case 2:
                queueing(v);
                return true;
            case 3:
                format = v;
                return true;
            case 4:
                control = v % 32;
                inputsAnew();
                return true;
            case 5:
            case 6:
                return true;
            case 7:
                spare = v;
                return true;
            default:
                return false;
        }
    }

    private void queueing(int v) {
        boolean had = !out.isEmpty();
        if (queued != bit(v, 0)) {
            in.clear();
            out.clear();
        }
        queued = bit(v, 0);
        if (queued) {
            if (bit(v, 1)) {
                in.clear();
            }
            if (bit(v, 2)) {
                out.clear();
            }
            level = new int[] {1, 4, 8, 14}[v / 64];
        }
        if (had && out.isEmpty()) {
            vacated = true;
        }
    }

    boolean wire(int c, int faults) {
        if (faults < 0 || faults > 7 || bit(control, 4)) {
            return false;
        }
        arrives(Math.floorMod(c, 256), faults);
        return true;
    }

    private int oneTick() {
        int leaving = 0;
        if (shifter != null) {
            toGo--;
            if (toGo == 0) {
                int c = shifter % new int[] {32, 64, 128, 256}[format % 4];
                shifter = null;
                leaving = 1;
                if (bit(control, 4)) {
                    arrives(c, 0);
                } else {
                    sent.add(c);
                }
            }
        }
        moveIfItCan();
        if (!in.isEmpty()) {
            quiet++;
        }
        return leaving;
    }

    int tick(int n) {
        if (n < 1 || n > 100) {
            return -1;
        }
        int all = 0;
        for (int k = 0; k < n; k++) {
            all += oneTick();
        }
        return all;
    }

    void lines(int bits) {
        int four = Math.floorMod(bits, 16);
        given = new boolean[] {bit(four, 0), bit(four, 1), bit(four, 2), bit(four, 3)};
        inputsAnew();
    }

    int sent(int k) {
        return k < 0 || k > 31 || k >= sent.size() ? -1 : sent.get(sent.size() - 1 - k);
    }

    int total() {
        return sent.size();
    }

    private void wake() {
        int was = read(1);
        write(1, bit(was, 1) ? was : was + 2);
    }

    void start() {
        forth.clear();
        back.clear();
        held = false;
        asked = false;
        urgent = null;
        write(2, 71);
        write(3, 3);
        write(1, 7);
    }

    boolean accept(int c) {
        if (forth.size() == 24) {
            return false;
        }
        forth.addLast(Math.floorMod(c, 256));
        wake();
        return true;
    }

    int take() {
        if (back.isEmpty()) {
            return -1;
        }
        int c = back.pollFirst();
        if (asked && back.size() <= 6) {
            urgent = 17;
            asked = false;
            wake();
        }
        return c;
    }

    private void handle(int c) {
        if (c == 19) {
            held = true;
            return;
        }
        if (c == 17) {
            held = false;
            wake();
            return;
        }
        if (back.size() == 24) {
            lost++;
            return;
        }
        back.addLast(c);
        if (back.size() >= 18 && !asked) {
            urgent = 19;
            asked = true;
            wake();
        }
    }

    private void roundOfReading() {
        for (int time = 1; time <= 17; time++) {
            int status = read(5);
            if (bit(status, 1)) {
                lost++;
            }
            if (!bit(status, 0) || time == 17) {
                break;
            }
            handle(read(0));
        }
    }

    private void roundOfWriting() {
        int written = 0;
        if (urgent != null) {
            write(0, urgent);
            urgent = null;
            written++;
        }
        while (!held && !forth.isEmpty() && written < 16) {
            write(0, forth.pollFirst());
            written++;
        }
        if (written == 0) {
            int was = read(1);
            write(1, bit(was, 1) ? was - 2 : was);
        }
    }

    int service() {
        for (int rounds = 0; rounds < 8; rounds++) {
            int cause = read(2) % 16;
            if (cause == 1) {
                return rounds;
            }
            if (cause == 6 && bit(read(5), 1)) {
                lost++;
            }
            if (cause == 4 || cause == 12) {
                roundOfReading();
            }
            if (cause == 2) {
                roundOfWriting();
            }
            if (cause == 0) {
                read(6);
            }
        }
        return 8;
    }

    int count(int which) {
        switch (which) {
            case 0: return back.size();
            case 1: return forth.size();
            case 2: return in.size();
            case 3: return out.size();
            default: return -1;
        }
    }

    int flow() {
        int sum = (held ? 1 : 0) + (asked ? 2 : 0);
        return urgent == null ? sum : urgent == 17 ? sum + 4 : sum + 8;
    }

    int lost() {
        return lost;
    }

    int left() {
        return shifter == null ? 0 : toGo;
    }
}
