import java.lang.reflect.Array;
import java.util.ArrayList;
import java.util.List;
import java.util.Random;

/**
 * Long runs of calls, made from fixed seeds, against a second desk whose sockets hold real Java arrays.
 * java.lang.reflect.Array reads, writes, takes and lays by the same rules as the document, so it tells
 * the causes and the widened numbers without sharing a line with the program.
 */
public final class ReflectedRunsTest {
    private static final int RUNS = 4000, CALLS = 256; // each call is followed by seen(): 512 in all

    private static class Knob {
        final int number;
        Knob(int number) { this.number = number; }
    }

    private static final class Fader extends Knob {
        Fader(int number) { super(number); }
    }

    private interface Work { void run(); }

    /** 0, or the cause that the Java machine's own refusal stands for. */
    private static int causeOf(Work work) {
        try {
            work.run();
            return 0;
        } catch (NullPointerException e) {
            return 1;
        } catch (IllegalArgumentException e) {
            return 2;
        } catch (ArrayIndexOutOfBoundsException e) {
            return 3;
        }
    }

    private static Object boxed(int kind, long bits) {
        switch (kind) {
            case 0: return (bits & 1) == 1;
            case 1: return (byte) bits;
            case 2: return (char) bits;
            case 3: return (short) bits;
            case 4: return (int) bits;
            case 5: return bits;
            case 6: return Float.intBitsToFloat((int) bits);
            default: return Double.longBitsToDouble(bits);
        }
    }

    private static final List<Class<?>> BOXES = List.of(Boolean.class, Byte.class, Character.class, Short.class,
        Integer.class, Long.class, Float.class, Double.class);

    private static long bitsOf(Object box) {
        if (box instanceof Boolean b) return b ? 1 : 0;
        if (box instanceof Character c) return c;
        if (box instanceof Float f) return Float.floatToRawIntBits(f);
        if (box instanceof Double d) return Double.doubleToRawLongBits(d);
        return ((Number) box).longValue();
    }

    private static Object read(Object array, int i, int kind) {
        switch (kind) {
            case 0: return Array.getBoolean(array, i);
            case 1: return Array.getByte(array, i);
            case 2: return Array.getChar(array, i);
            case 3: return Array.getShort(array, i);
            case 4: return Array.getInt(array, i);
            case 5: return Array.getLong(array, i);
            case 6: return Array.getFloat(array, i);
            default: return Array.getDouble(array, i);
        }
    }

    private static void write(Object array, int i, Object box) {
        if (box instanceof Boolean b) Array.setBoolean(array, i, b);
        else if (box instanceof Byte b) Array.setByte(array, i, b);
        else if (box instanceof Character c) Array.setChar(array, i, c);
        else if (box instanceof Short s) Array.setShort(array, i, s);
        else if (box instanceof Integer n) Array.setInt(array, i, n);
        else if (box instanceof Long n) Array.setLong(array, i, n);
        else if (box instanceof Float f) Array.setFloat(array, i, f);
        else Array.setDouble(array, i, (Double) box);
    }

    private static final class Link {
        int from, i, s, to, k, t, way, rule;
        int placeFrom, placeTo, moved, cause, side = -1, causes;
        boolean in = true;
    }

    /** The second desk. */
    private static final class Desk {
        final Object[] sockets = new Object[10];
        final List<Knob> knobs = new ArrayList<>();
        final List<Integer> gains = new ArrayList<>();
        final List<Link> links = new ArrayList<>();
        long seen;
        int ticks, moves;

        static boolean socket(int n) { return n >= 0 && n <= 9; }
        static boolean kind(int n) { return n >= 0 && n <= 7; }
        static int told(int cause) { return cause == 0 ? 0 : -10 - cause; }

        static boolean nan(int kind, long bits) {
            return kind == 6 && Float.isNaN(Float.intBitsToFloat((int) bits))
                || kind == 7 && Double.isNaN(Double.longBitsToDouble(bits));
        }

        int plug(int socket, int sort, int n) {
            if (!socket(socket)) return -101;
            if (sort < 0 || sort > 13 || sort == 12 || sort != 13 && (n < 0 || n > 16)) return -102;
            switch (sort) {
                case 0: sockets[socket] = new boolean[n]; break;
                case 1: sockets[socket] = new byte[n]; break;
                case 2: sockets[socket] = new char[n]; break;
                case 3: sockets[socket] = new short[n]; break;
                case 4: sockets[socket] = new int[n]; break;
                case 5: sockets[socket] = new long[n]; break;
                case 6: sockets[socket] = new float[n]; break;
                case 7: sockets[socket] = new double[n]; break;
                case 8: sockets[socket] = new Knob[n]; break;
                case 9: sockets[socket] = new Fader[n]; break;
                case 10: sockets[socket] = new int[n][]; break;
                case 11: sockets[socket] = new double[n][]; break;
                default: sockets[socket] = null;
            }
            return 1;
        }

        int knob(int gain, boolean fader) {
            if (knobs.size() == 24) return -103;
            knobs.add(fader ? new Fader(knobs.size()) : new Knob(knobs.size()));
            gains.add(gain);
            return knobs.size() - 1;
        }

        boolean isKnob(int n) { return n >= 0 && n < knobs.size(); }

        int mount(int socket, int knob) {
            if (!socket(socket) || !isKnob(knob)) return -101;
            sockets[socket] = knobs.get(knob);
            return 1;
        }

        int share(int socket, int from) {
            if (!socket(socket) || !socket(from)) return -101;
            sockets[socket] = sockets[from];
            return 1;
        }

        int width(int socket) {
            if (!socket(socket)) return -101;
            int[] width = new int[1];
            int cause = causeOf(() -> width[0] = Array.getLength(sockets[socket]));
            return cause == 0 ? width[0] : told(cause);
        }

        int tap(int socket, int i, int kind) {
            if (!socket(socket)) return -101;
            if (!kind(kind)) return -102;
            return told(causeOf(() -> seen = bitsOf(read(sockets[socket], i, kind))));
        }

        int dial(int socket, int i, int kind, long bits) {
            if (!socket(socket)) return -101;
            if (!kind(kind) || nan(kind, bits)) return -102;
            return told(causeOf(() -> write(sockets[socket], i, boxed(kind, bits))));
        }

        int lay(int socket, int i, int knob) {
            if (!socket(socket) || knob != -1 && !isKnob(knob)) return -101;
            return told(causeOf(() -> Array.set(sockets[socket], i, knob == -1 ? null : knobs.get(knob))));
        }

        int row(int socket, int i, int n) {
            if (!socket(socket)) return -101;
            if (n < 0 || n > 16) return -102;
            Object row = sockets[socket] instanceof double[][] ? new double[n] : new int[n];
            return told(causeOf(() -> Array.set(sockets[socket], i, row)));
        }

        int what(int socket, int i) {
            if (!socket(socket)) return -101;
            Object[] got = new Object[1];
            int cause = causeOf(() -> got[0] = Array.get(sockets[socket], i));
            if (cause != 0) return told(cause);
            if (got[0] == null) return -1;
            if (got[0] instanceof Knob k) return k.number;
            if (got[0].getClass().isArray()) return 100 + Array.getLength(got[0]);
            return 200 + BOXES.indexOf(got[0].getClass());
        }

        int inner(int socket, int i, int j, int kind) {
            if (!socket(socket)) return -101;
            if (!kind(kind)) return -102;
            return told(causeOf(() -> seen = bitsOf(read(Array.get(sockets[socket], i), j, kind))));
        }

        int enter(int socket, int i, int j, int kind, long bits) {
            if (!socket(socket)) return -101;
            if (!kind(kind) || nan(kind, bits)) return -102;
            return told(causeOf(() -> write(Array.get(sockets[socket], i), j, boxed(kind, bits))));
        }

        int cable(int[] a) {
            if (!socket(a[0]) || !socket(a[3])) return -101;
            if (Math.abs(a[2]) > 4 || Math.abs(a[5]) > 4) return -102;
            if (a[6] != -1 && !kind(a[6]) || a[7] < 0 || a[7] > 2) return -102;
            if (links.size() == 12) return -103;
            Link link = new Link();
            link.from = a[0]; link.i = a[1]; link.s = a[2];
            link.to = a[3]; link.k = a[4]; link.t = a[5];
            link.way = a[6]; link.rule = a[7];
            link.placeFrom = a[1]; link.placeTo = a[4];
            links.add(link);
            return links.size() - 1;
        }

        Link link(int n) { return n >= 0 && n < links.size() ? links.get(n) : null; }

        int in(int n) {
            Link link = link(n);
            if (link == null) return -101;
            boolean was = link.in;
            link.in = true;
            link.placeFrom = link.i;
            link.placeTo = link.k;
            return was ? 0 : 1;
        }

        int out(int n) {
            Link link = link(n);
            if (link == null) return -101;
            boolean was = link.in;
            link.in = false;
            return was ? 1 : 0;
        }

        int tick(int n) {
            if (n < 0 || n > 8) return -102;
            int before = moves;
            for (int round = 0; round < n; round++) {
                ticks++;
                for (Link link : links) if (link.in) pull(link);
            }
            return moves - before;
        }

        void pull(Link link) {
            Object a = sockets[link.from], b = sockets[link.to];
            Object[] got = new Object[1];
            int side = 0;
            int cause = causeOf(() -> got[0] = link.way == -1 ? Array.get(a, link.placeFrom) : read(a, link.placeFrom, link.way));
            if (cause == 0) {
                side = 1;
                cause = causeOf(() -> {
                    if (link.way == -1) Array.set(b, link.placeTo, got[0]);
                    else write(b, link.placeTo, got[0]);
                });
            }
            if (cause == 0) {
                link.moved++;
                moves++;
            } else {
                link.cause = cause;
                link.side = side;
                link.causes++;
            }
            if (cause != 0 && (link.rule == 0 || link.causes > 99)) {
                link.in = false;
            } else if (cause != 0 && link.rule == 2) {
                link.placeFrom = link.i;
                link.placeTo = link.k;
            } else {
                link.placeFrom += link.s;
                link.placeTo += link.t;
            }
        }

        int told(int n, int what) {
            Link link = link(n);
            if (link == null) return -101;
            if (what < 0 || what > 6) return -102;
            return new int[] {link.in ? 1 : 0, link.placeFrom, link.placeTo, link.moved, link.cause, link.side, link.causes}[what];
        }

        int level(int socket) {
            if (!socket(socket)) return -101;
            return told(causeOf(() -> {
                long sum = 0;
                for (int i = 0; i < Array.getLength(sockets[socket]); i++) sum += Array.getLong(sockets[socket], i);
                seen = sum;
            }));
        }

        int gain(int knob) { return isKnob(knob) ? gains.get(knob) : 0; }

        int about(int what) {
            if (what < 0 || what > 4) return -102;
            int in = 0;
            for (Link link : links) if (link.in) in++;
            return new int[] {knobs.size(), links.size(), in, ticks, moves}[what];
        }
    }

    private static final long[] EDGES = {
        0, 1, -1, 2, 127, 128, -128, 255, 32767, 32768, 40000, 65535, 65536, 16777215, 16777216, 16777217, 16777219,
        -16777217, 33554431, 2147483647L, -2147483648L, 2147483648L, 2147483583L, 2147483584L, 4294967295L,
        9007199254740991L, 9007199254740992L, 9007199254740993L, 9007199254740995L, -9007199254740993L,
        Long.MAX_VALUE, Long.MIN_VALUE, Long.MIN_VALUE + 1, 0x7fffff4000000000L, 0x7fffffbfffffffffL,
        0x7ffffffffffffdffL, 0x7ffffffffffffe00L, 0x7f800000L, 0xff800000L, 0x7f7fffffL, 0x800000L, 0x7fffffL,
        0x80000001L, 0x80000000L, 0x7fc00000L, 0x7f800001L, 0x7ff0000000000000L, 0xfff0000000000000L,
        0x7ff8000000000000L, 0x7ff0000000000001L, 0x3ff0000000000000L, 0x3f800000L};

    private static final int[] FAR = {-1, 16, 17, Integer.MAX_VALUE, Integer.MIN_VALUE, Integer.MAX_VALUE - 3, Integer.MIN_VALUE + 3};

    private final Random random;
    private final int sockets;
    private final int tickWeight;
    private final CordBoard board = new CordBoard();
    private final Desk desk = new Desk();
    private final StringBuilder log = new StringBuilder();
    private long got, want;

    private ReflectedRunsTest(long seed) {
        random = new Random(seed);
        // Few sockets make the calls meet; many ticks bring cables to their hundredth cause.
        sockets = 2 + random.nextInt(9);
        tickWeight = random.nextInt(30);
    }

    private boolean rarely() { return random.nextInt(40) == 0; }

    private int socket() { return rarely() ? (random.nextBoolean() ? -1 : 10) : random.nextInt(sockets); }

    private int place() { return rarely() ? FAR[random.nextInt(FAR.length)] : random.nextInt(5) - (rarely() ? 1 : 0); }

    private int kind() { return rarely() ? (random.nextBoolean() ? -1 : 8) : random.nextInt(8); }

    private int width() { return rarely() ? FAR[random.nextInt(FAR.length)] : random.nextInt(6); }

    private int knobNumber() { return rarely() ? random.nextInt(40) - 8 : random.nextInt(desk.knobs.size() + 2) - 1; }

    private int linkNumber() { return rarely() ? random.nextInt(20) - 4 : random.nextInt(desk.links.size() + 1); }

    private long bits() {
        int choice = random.nextInt(3);
        if (choice == 0) return random.nextLong() >> random.nextInt(64);
        if (choice == 1) return random.nextInt();
        return EDGES[random.nextInt(EDGES.length)];
    }

    private void answers(String call, long gotNow, long wantNow) {
        log.append(call).append(" -> ").append(gotNow).append('\n');
        got = gotNow;
        want = wantNow;
    }

    private void callHolding(int choice) {
        int s = socket(), i = place(), j = place(), k = kind();
        long b = bits();
        switch (choice) {
            case 0: {
                int sort = rarely() ? random.nextInt(17) - 2 : random.nextInt(12), n = width();
                answers("plug " + s + " " + sort + " " + n, board.plug(s, sort, n), desk.plug(s, sort, n));
                break;
            }
            case 1: {
                boolean fader = random.nextBoolean();
                int gain = random.nextInt();
                answers("knob " + gain + " " + fader, board.knob(gain, fader), desk.knob(gain, fader));
                break;
            }
            case 2: {
                int n = knobNumber();
                if (random.nextInt(3) == 0) answers("mount " + s + " " + n, board.mount(s, n), desk.mount(s, n));
                else answers("gain " + n, board.gain(n), desk.gain(n));
                break;
            }
            case 3: {
                int from = socket();
                if (random.nextInt(3) == 0) answers("share " + s + " " + from, board.share(s, from), desk.share(s, from));
                else answers("width " + s, board.width(s), desk.width(s));
                break;
            }
            case 4: case 5:
                answers("tap " + s + " " + i + " " + k, board.tap(s, i, k), desk.tap(s, i, k));
                break;
            case 6: case 7: case 8:
                answers("dial " + s + " " + i + " " + k + " " + b, board.dial(s, i, k, b), desk.dial(s, i, k, b));
                break;
            case 9: {
                int n = knobNumber();
                answers("lay " + s + " " + i + " " + n, board.lay(s, i, n), desk.lay(s, i, n));
                break;
            }
            case 10: {
                int n = width();
                answers("row " + s + " " + i + " " + n, board.row(s, i, n), desk.row(s, i, n));
                break;
            }
            case 11:
                answers("what " + s + " " + i, board.what(s, i), desk.what(s, i));
                break;
            case 12: case 13:
                answers("inner " + s + " " + i + " " + j + " " + k, board.inner(s, i, j, k), desk.inner(s, i, j, k));
                break;
            case 14: case 15:
                answers("enter " + s + " " + i + " " + j + " " + k + " " + b, board.enter(s, i, j, k, b), desk.enter(s, i, j, k, b));
                break;
            default:
                answers("level " + s, board.level(s), desk.level(s));
        }
    }

    private void callCable() {
        int[] a = {socket(), place(), step(), socket(), place(), step(), random.nextBoolean() ? -1 : kind(), random.nextInt(3)};
        if (rarely()) a[7] = random.nextBoolean() ? -1 : 3;
        if (rarely()) a[6] = -2;
        answers("cable " + List.of(a[0], a[1], a[2], a[3], a[4], a[5], a[6], a[7]),
            board.cable(a[0], a[1], a[2], a[3], a[4], a[5], a[6], a[7]), desk.cable(a));
    }

    private int step() { return rarely() ? (random.nextBoolean() ? -5 : 5) : random.nextInt(random.nextBoolean() ? 2 : 5) - random.nextInt(2); }

    private void callMoving() {
        int n = linkNumber();
        switch (random.nextInt(6)) {
            case 0: answers("in " + n, board.in(n), desk.in(n)); break;
            case 1: answers("out " + n, board.out(n), desk.out(n)); break;
            case 2: case 3: {
                int what = random.nextInt(rarely() ? 9 : 7) - (rarely() ? 1 : 0);
                answers("told " + n + " " + what, board.told(n, what), desk.told(n, what));
                break;
            }
            case 4: {
                int what = random.nextInt(rarely() ? 7 : 5) - (rarely() ? 1 : 0);
                answers("about " + what, board.about(what), desk.about(what));
                break;
            }
            default: callCable();
        }
    }

    private void callTick() {
        int n = rarely() ? (random.nextBoolean() ? -1 : 9) : random.nextInt(9);
        answers("tick " + n, board.tick(n), desk.tick(n));
    }

    /** Whether all answers were as due. */
    private boolean run(long seed) {
        for (int call = 0; call < CALLS; call++) {
            int choice = random.nextInt(60 + tickWeight);
            if (choice < 17) callHolding(choice);
            else if (choice < 35) callHolding(4 + random.nextInt(13));
            else if (choice < 58) callMoving();
            else callTick();
            boolean sameSeen = board.seen() == desk.seen;
            if (got != want || !sameSeen) {
                System.out.println("seed " + seed + ", call " + call + ":\n" + log + "due is " + want
                    + (sameSeen ? "" : "; seen() answers " + board.seen() + ", due is " + desk.seen));
                return false;
            }
        }
        return true;
    }

    public static void main(String[] args) {
        int wrong = 0;
        int broken = 0;
        for (long seed = 1; seed <= RUNS && wrong < 3; seed++) {
            ReflectedRunsTest test = new ReflectedRunsTest(seed);
            if (!test.run(seed)) wrong++;
            for (Link link : test.desk.links) if (link.causes > 100) broken++;
        }
        // Without these the runs would not look at the hundredth cause at all.
        if (wrong == 0 && broken == 0) {
            wrong++;
            System.out.println("no run came beyond the hundredth cause");
        }
        System.out.println(wrong == 0 ? "all runs are as due" : "runs are not as due");
        if (wrong != 0) System.exit(1);
    }
}
