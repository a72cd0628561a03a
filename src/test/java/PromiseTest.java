/** For each promise of the document: ordinary calls, the edges that it names, and wrong ones. */
public final class PromiseTest {
    private static final int UNKNOWN = CordBoard.UNKNOWN, OUTSIDE = CordBoard.OUTSIDE, FULL = CordBoard.FULL, NONE = CordBoard.NONE;
    private static final int EMPTY = -11, WRONG = -12, PLACE = -13;
    private static final int TRUTH = 0, BYTE = 1, CHAR = 2, SHORT = 3, INT = 4, LONG = 5, FLOAT = 6, DOUBLE = 7;
    private static final int STRIP = 8, FADERS = 9, INTS = 10, DOUBLES = 11, NOTHING = 13;
    private static final int IN = 0, FROM = 1, TO = 2, MOVED = 3, CAUSE = 4, SIDE = 5, CAUSES = 6;

    private static int wrong = 0;
    private static int promise = 0;

    private static void due(String call, long got, long want) {
        if (got == want) return;
        wrong++;
        System.out.println("promise " + promise + ": " + call + " answered " + got + ", due is " + want);
    }

    /** A desk with knob 0, fader 1, and in socket n a row of sort n with 3 places, for sorts 0 .. 9. */
    private static CordBoard fullDesk() {
        CordBoard x = new CordBoard();
        x.knob(5, false);
        x.knob(-7, true);
        for (int sort = 0; sort < 10; sort++) x.plug(sort, sort, 3);
        return x;
    }

    private static void newObject() {
        promise = 1;
        CordBoard x = new CordBoard();
        for (int s = 0; s < 10; s++) due("width of a new socket", x.width(s), EMPTY);
        due("about(0)", x.about(0), 0);
        due("about(1)", x.about(1), 0);
        due("gain(0)", x.gain(0), 0);
        due("told(0, 0)", x.told(0, IN), UNKNOWN);
        CordBoard other = new CordBoard();
        x.plug(0, INT, 1);
        x.knob(1, true);
        due("width of another desk", other.width(0), EMPTY);
        due("knobs of another desk", other.about(0), 0);
    }

    private static void plug() {
        promise = 2;
        CordBoard x = new CordBoard();
        for (int sort = 0; sort <= 11; sort++) {
            due("plug with 0 places", x.plug(0, sort, 0), 1);
            due("its width", x.width(0), 0);
            due("plug with 16 places", x.plug(0, sort, 16), 1);
            due("its width", x.width(0), 16);
            due("what stands there", x.what(0, 15), sort <= 7 ? 200 + sort : NONE);
        }
        due("plug with 17 places", x.plug(0, INT, 17), OUTSIDE);
        due("plug with -1 places", x.plug(0, INT, -1), OUTSIDE);
        due("plug of a sort -1", x.plug(0, -1, 1), OUTSIDE);
        due("plug of a sort 12", x.plug(0, 12, 1), OUTSIDE);
        due("plug of a sort 14", x.plug(0, 14, 1), OUTSIDE);
        due("refused, it changes nothing", x.width(0), 16);
        due("UNKNOWN is ahead of OUTSIDE", x.plug(10, 12, 99), UNKNOWN);
        due("plug(-1, ..)", x.plug(-1, NOTHING, 0), UNKNOWN);
        due("plug of nothing", x.plug(0, NOTHING, -5), 1);
        due("then it is empty", x.width(0), EMPTY);
        x.plug(1, INT, 2);
        x.dial(1, 0, INT, 9);
        x.plug(1, INT, 2);
        x.tap(1, 0, INT);
        due("a new row is 0 at first", x.seen(), 0);
    }

    private static void knob() {
        promise = 3;
        CordBoard x = new CordBoard();
        for (int n = 0; n < 24; n++) due("knob", x.knob(n * 3 - 5, n % 2 == 1), n);
        due("the 25th", x.knob(1, false), FULL);
        due("about(0)", x.about(0), 24);
        due("gain(23)", x.gain(23), 64);
        due("gain(24)", x.gain(24), 0);
        due("mount(0, 24)", x.mount(0, 24), UNKNOWN);
        x.plug(0, FADERS, 1);
        due("an odd one is a fader", x.lay(0, 0, 23), 0);
        due("an even one is none", x.lay(0, 0, 22), WRONG);
    }

    private static void mount() {
        promise = 4;
        CordBoard x = fullDesk();
        due("mount", x.mount(3, 1), 1);
        due("its width", x.width(3), WRONG);
        due("mount(10, 0)", x.mount(10, 0), UNKNOWN);
        due("mount(-1, 0)", x.mount(-1, 0), UNKNOWN);
        due("mount of no knob", x.mount(4, 2), UNKNOWN);
        due("mount(4, -1)", x.mount(4, NONE), UNKNOWN);
        due("refused, it changes nothing", x.width(4), 3);
    }

    private static void share() {
        promise = 5;
        CordBoard x = new CordBoard();
        x.plug(0, INT, 3);
        due("share", x.share(1, 0), 1);
        x.dial(1, 2, INT, 77);
        x.tap(0, 2, INT);
        due("it is the same thing", x.seen(), 77);
        x.plug(0, LONG, 1);
        due("a new row in one leaves the other", x.width(1), 3);
        due("share of nothing", x.share(1, 9), 1);
        due("it holds nothing", x.width(1), EMPTY);
        due("share with itself", x.share(0, 0), 1);
        due("that changes nothing", x.width(0), 1);
        due("share(10, 0)", x.share(10, 0), UNKNOWN);
        due("share(0, 10)", x.share(0, 10), UNKNOWN);
        due("share(0, -1)", x.share(0, -1), UNKNOWN);
        due("refused, it changes nothing", x.width(0), 1);
        x.knob(4, false);
        x.mount(2, 0);
        x.share(3, 2);
        due("a knob itself is shared too", x.width(3), WRONG);
    }

    private static void width() {
        promise = 6;
        CordBoard x = fullDesk();
        for (int s = 0; s < 10; s++) due("width", x.width(s), 3);
        x.plug(0, STRIP, 0);
        due("width of none", x.width(0), 0);
        x.plug(0, DOUBLES, 16);
        due("width of a bank", x.width(0), 16);
        x.mount(0, 0);
        due("width of a knob", x.width(0), WRONG);
        x.plug(0, NOTHING, 0);
        due("width of nothing", x.width(0), EMPTY);
        due("width(10)", x.width(10), UNKNOWN);
        due("width(-1)", x.width(-1), UNKNOWN);
    }

    private static void tap() {
        promise = 7;
        CordBoard x = fullDesk();
        x.dial(INT, 2, INT, -9);
        due("tap", x.tap(INT, 2, INT), 0);
        due("seen", x.seen(), -9);
        due("tap as of LONG", x.tap(INT, 2, LONG), 0);
        due("seen", x.seen(), -9);
        due("tap as of FLOAT", x.tap(INT, 2, FLOAT), 0);
        due("seen", x.seen(), Float.floatToIntBits(-9f));
        due("tap as of DOUBLE", x.tap(INT, 2, DOUBLE), 0);
        due("seen", x.seen(), Double.doubleToLongBits(-9d));
        due("tap as of SHORT", x.tap(INT, 2, SHORT), WRONG);
        due("tap as of TRUTH", x.tap(INT, 2, TRUTH), WRONG);
        due("PLACE is ahead of kinds", x.tap(INT, 3, TRUTH), PLACE);
        due("tap at -1", x.tap(INT, -1, INT), PLACE);
        due("no track is ahead of PLACE", x.tap(STRIP, 99, INT), WRONG);
        due("a cause changes nothing", x.seen(), Double.doubleToLongBits(-9d));
        due("tap(10, ..)", x.tap(10, 0, 8), UNKNOWN);
        due("tap as of 8", x.tap(INT, 99, 8), OUTSIDE);
        due("tap as of -1", x.tap(INT, 99, -1), OUTSIDE);
        x.mount(0, 0);
        due("tap at a knob", x.tap(0, 0, INT), WRONG);
        x.plug(0, NOTHING, 0);
        due("tap at nothing", x.tap(0, 0, INT), EMPTY);
    }

    private static void seen() {
        promise = 8;
        CordBoard x = fullDesk();
        due("seen at first", x.seen(), 0);
        x.dial(LONG, 0, LONG, Long.MIN_VALUE);
        due("dial is not seen", x.seen(), 0);
        x.tap(LONG, 0, LONG);
        due("seen", x.seen(), Long.MIN_VALUE);
        due("seen again", x.seen(), Long.MIN_VALUE);
        x.cable(BYTE, 0, 0, BYTE, 1, 0, BYTE, 0);
        x.tick(2);
        x.what(BYTE, 0);
        due("a tick and what() are not seen", x.seen(), Long.MIN_VALUE);
    }

    private static long dialled(int track, int kind, long bits) {
        CordBoard x = fullDesk();
        due("dial", x.dial(track, 1, kind, bits), 0);
        x.tap(track, 1, track);
        return x.seen();
    }

    private static void dial() {
        promise = 9;
        due("TRUTH is cut", dialled(TRUTH, TRUTH, 6), 0);
        due("TRUTH is cut", dialled(TRUTH, TRUTH, 7), 1);
        due("BYTE is cut", dialled(BYTE, BYTE, 0x180), -128);
        due("CHAR is cut", dialled(CHAR, CHAR, -1), 65535);
        due("SHORT is cut", dialled(SHORT, SHORT, 0x18000), -32768);
        due("INT is cut", dialled(INT, INT, 0x180000000L), -2147483648L);
        due("LONG is as it is", dialled(LONG, LONG, Long.MIN_VALUE), Long.MIN_VALUE);
        due("FLOAT is cut", dialled(FLOAT, FLOAT, 0x1bf800000L), (int) 0xbf800000L);
        due("DOUBLE is as it is", dialled(DOUBLE, DOUBLE, 0xfff0000000000000L), 0xfff0000000000000L);
        due("CHAR for INT has no sign", dialled(INT, CHAR, -1), 65535);
        due("16777217 for FLOAT, to the even", dialled(FLOAT, INT, 16777217), Float.floatToIntBits(16777216f));
        due("16777219 for FLOAT, to the even", dialled(FLOAT, INT, 16777219), Float.floatToIntBits(16777220f));
        due("the least LONG for FLOAT", dialled(FLOAT, LONG, Long.MIN_VALUE), Float.floatToIntBits((float) Long.MIN_VALUE));
        due("the most LONG for DOUBLE", dialled(DOUBLE, LONG, Long.MAX_VALUE), Double.doubleToLongBits(9223372036854775807d));
        due("the least FLOAT for DOUBLE", dialled(DOUBLE, FLOAT, 1), Double.doubleToLongBits(Float.MIN_VALUE));
        due("-0 for DOUBLE", dialled(DOUBLE, FLOAT, Integer.MIN_VALUE), Long.MIN_VALUE);
        due("infinity for DOUBLE", dialled(DOUBLE, FLOAT, 0xff800000L), 0xfff0000000000000L);
        for (long whole : WHOLES) {
            due(whole + " for FLOAT", dialled(FLOAT, LONG, whole), Float.floatToIntBits((float) whole));
            due(whole + " for DOUBLE", dialled(DOUBLE, LONG, whole), Double.doubleToLongBits((double) whole));
        }
        for (float small : FLOATS) {
            due(small + " for DOUBLE", dialled(DOUBLE, FLOAT, Float.floatToIntBits(small)), Double.doubleToLongBits(small));
        }
        dialRefused();
        dialKinds();
    }

    private static final long[] WHOLES = {0, 1, -1, 3, 16777215, 33554431, 33554433, 33554435, -33554437, 67108867,
        9007199254740991L, 18014398509481987L, 18014398509481989L, -36028797018963971L, Long.MAX_VALUE - 511, 0x7fffffbfffffffffL};

    private static final float[] FLOATS = {0f, 1f, -1.5f, 0.1f, 3.4028235e38f, 1.1754944e-38f, 1.1754942e-38f, -4.2e-45f, 7e-45f};

    private static void dialRefused() {
        CordBoard x = fullDesk();
        x.dial(FLOAT, 0, FLOAT, 0x3f800000);
        due("a FLOAT that is none", x.dial(FLOAT, 0, FLOAT, 0x7f800001), OUTSIDE);
        due("a FLOAT that is none, cut", x.dial(FLOAT, 0, FLOAT, 0x1ffffffffL), OUTSIDE);
        due("a DOUBLE that is none", x.dial(FLOAT, 0, DOUBLE, 0x7ff0000000000001L), OUTSIDE);
        due("a DOUBLE that is none", x.dial(FLOAT, 0, DOUBLE, 0xfff8000000000000L), OUTSIDE);
        due("kind 8", x.dial(FLOAT, 0, 8, 0), OUTSIDE);
        due("kind -1", x.dial(FLOAT, 0, -1, 0), OUTSIDE);
        due("UNKNOWN is ahead", x.dial(10, 0, 8, 0), UNKNOWN);
        due("socket -1", x.dial(-1, 0, INT, 0), UNKNOWN);
        due("place 3", x.dial(FLOAT, 3, DOUBLE, 0), PLACE);
        due("place -1", x.dial(FLOAT, -1, FLOAT, 0), PLACE);
        due("DOUBLE for FLOAT", x.dial(FLOAT, 0, DOUBLE, 0), WRONG);
        due("no track is ahead of PLACE", x.dial(STRIP, 99, INT, 0), WRONG);
        x.tap(FLOAT, 0, FLOAT);
        due("nothing has changed", x.seen(), 0x3f800000);
        x.mount(0, 0);
        due("a knob itself", x.dial(0, 0, TRUTH, 1), WRONG);
        x.plug(0, NOTHING, 0);
        due("nothing", x.dial(0, 0, TRUTH, 1), EMPTY);
    }

    private static final String[] GOES = {"0", "134567", "24567", "34567", "4567", "567", "67", "7"};

    private static void dialKinds() {
        CordBoard x = fullDesk();
        for (int kind = 0; kind <= 7; kind++) {
            for (int track = 0; track <= 7; track++) {
                int want = GOES[kind].indexOf('0' + track) >= 0 ? 0 : WRONG;
                due("dial of " + kind + " for " + track, x.dial(track, 0, kind, 1), want);
                due("tap of " + kind + " as of " + track, x.tap(kind, 0, track), want);
            }
        }
    }

    private static void lay() {
        promise = 10;
        CordBoard x = fullDesk();
        due("a knob in a strip", x.lay(STRIP, 0, 0), 0);
        due("it stands there", x.what(STRIP, 0), 0);
        due("a fader in a strip", x.lay(STRIP, 2, 1), 0);
        due("it stands there", x.what(STRIP, 2), 1);
        due("a fader among faders", x.lay(FADERS, 1, 1), 0);
        due("a knob among faders", x.lay(FADERS, 1, 0), WRONG);
        due("that changes nothing", x.what(FADERS, 1), 1);
        due("PLACE is ahead of what fits", x.lay(FADERS, 3, 0), PLACE);
        due("nothing in a strip", x.lay(STRIP, 0, NONE), 0);
        due("it stands there", x.what(STRIP, 0), NONE);
        due("nothing in a strip, no place", x.lay(STRIP, -1, NONE), PLACE);
        due("a track: nothing is ahead of PLACE", x.lay(INT, 99, NONE), WRONG);
        due("a track: PLACE", x.lay(INT, 3, 0), PLACE);
        due("a track: no number", x.lay(INT, 2, 0), WRONG);
        due("no such knob", x.lay(STRIP, 0, 2), UNKNOWN);
        due("knob -2", x.lay(STRIP, 0, -2), UNKNOWN);
        due("socket 10", x.lay(10, 0, 0), UNKNOWN);
        x.plug(0, INTS, 1);
        due("a knob in a bank", x.lay(0, 0, 0), WRONG);
        due("nothing in a bank", x.lay(0, 0, NONE), 0);
        x.mount(0, 0);
        due("a knob itself is ahead of PLACE", x.lay(0, 99, 0), WRONG);
        x.plug(0, NOTHING, 0);
        due("nothing there", x.lay(0, 0, 0), EMPTY);
    }

    private static void row() {
        promise = 11;
        CordBoard x = fullDesk();
        x.plug(0, INTS, 2);
        x.plug(1, DOUBLES, 2);
        due("a row of ints", x.row(0, 1, 16), 0);
        due("it stands there", x.what(0, 1), 116);
        due("it is of ints", x.inner(0, 1, 15, INT), 0);
        due("a row of doubles", x.row(1, 0, 0), 0);
        due("it stands there", x.what(1, 0), 100);
        x.row(1, 0, 1);
        due("it is of doubles", x.inner(1, 0, 0, FLOAT), WRONG);
        due("it is of doubles", x.inner(1, 0, 0, DOUBLE), 0);
        due("17 places", x.row(0, 1, 17), OUTSIDE);
        due("-1 places", x.row(0, 1, -1), OUTSIDE);
        due("UNKNOWN is ahead", x.row(10, 1, 17), UNKNOWN);
        due("place 2", x.row(0, 2, 1), PLACE);
        due("nothing has changed", x.what(0, 1), 116);
        due("in a strip", x.row(STRIP, 0, 1), WRONG);
        due("in a strip, no place", x.row(STRIP, 3, 1), PLACE);
        due("in a track", x.row(INT, 0, 1), WRONG);
        due("in a track, no place", x.row(INT, 3, 1), PLACE);
        x.mount(2, 1);
        due("in a knob", x.row(2, 0, 1), WRONG);
        x.plug(2, NOTHING, 0);
        due("in nothing", x.row(2, 0, 1), EMPTY);
    }

    private static void what() {
        promise = 12;
        CordBoard x = fullDesk();
        for (int kind = 0; kind <= 7; kind++) due("a number", x.what(kind, 2), 200 + kind);
        due("nothing", x.what(STRIP, 2), NONE);
        x.lay(STRIP, 2, 1);
        due("a fader", x.what(STRIP, 2), 1);
        x.plug(0, INTS, 1);
        x.row(0, 0, 7);
        due("a row", x.what(0, 0), 107);
        due("place 1", x.what(0, 1), PLACE);
        due("place -1", x.what(INT, -1), PLACE);
        due("socket 10", x.what(10, 0), UNKNOWN);
        x.mount(0, 0);
        due("a knob itself is ahead of PLACE", x.what(0, 99), WRONG);
        x.plug(0, NOTHING, 0);
        due("empty", x.what(0, 0), EMPTY);
    }

    private static void inner() {
        promise = 13;
        CordBoard x = fullDesk();
        x.plug(0, INTS, 2);
        x.row(0, 0, 2);
        x.enter(0, 0, 1, INT, -3);
        due("inner", x.inner(0, 0, 1, INT), 0);
        due("seen", x.seen(), -3);
        due("inner as of FLOAT", x.inner(0, 0, 1, FLOAT), 0);
        due("seen", x.seen(), Float.floatToIntBits(-3f));
        due("inner as of SHORT", x.inner(0, 0, 1, SHORT), WRONG);
        due("PLACE is ahead of kinds", x.inner(0, 0, 2, SHORT), PLACE);
        due("j = -1", x.inner(0, 0, -1, INT), PLACE);
        due("nothing stands there", x.inner(0, 1, 99, INT), EMPTY);
        due("no place i", x.inner(0, 2, 0, INT), PLACE);
        due("a number stands there", x.inner(INT, 0, 99, INT), WRONG);
        due("a strip's nothing", x.inner(STRIP, 0, 0, INT), EMPTY);
        x.lay(STRIP, 0, 0);
        due("a knob stands there", x.inner(STRIP, 0, 99, INT), WRONG);
        due("kind 8", x.inner(0, 0, 0, 8), OUTSIDE);
        due("kind -1", x.inner(0, 0, 0, -1), OUTSIDE);
        due("UNKNOWN is ahead", x.inner(10, 0, 0, 8), UNKNOWN);
        x.mount(1, 0);
        due("a knob itself", x.inner(1, 0, 0, INT), WRONG);
        x.plug(1, NOTHING, 0);
        due("empty", x.inner(1, 0, 0, INT), EMPTY);
        due("causes change nothing", x.seen(), Float.floatToIntBits(-3f));
    }

    private static void enter() {
        promise = 14;
        CordBoard x = fullDesk();
        x.plug(0, DOUBLES, 2);
        x.row(0, 0, 2);
        due("enter of DOUBLE", x.enter(0, 0, 0, DOUBLE, Double.doubleToLongBits(0.5)), 0);
        due("enter of LONG", x.enter(0, 0, 1, LONG, 9007199254740993L), 0);
        x.inner(0, 0, 0, DOUBLE);
        due("seen", x.seen(), Double.doubleToLongBits(0.5));
        x.inner(0, 0, 1, DOUBLE);
        due("seen, to the nearest", x.seen(), Double.doubleToLongBits(9007199254740992d));
        due("TRUTH for DOUBLE", x.enter(0, 0, 1, TRUTH, 1), WRONG);
        due("PLACE is ahead of kinds", x.enter(0, 0, 2, TRUTH, 1), PLACE);
        due("nothing stands there", x.enter(0, 1, 0, INT, 1), EMPTY);
        due("no place i", x.enter(0, 2, 0, INT, 1), PLACE);
        due("a number stands there", x.enter(INT, 0, 0, INT, 1), WRONG);
        x.lay(STRIP, 0, 0);
        due("a knob stands there", x.enter(STRIP, 0, 99, INT, 1), WRONG);
        due("kind 8", x.enter(0, 0, 0, 8, 1), OUTSIDE);
        due("no number", x.enter(0, 0, 0, FLOAT, 0x7fc00000), OUTSIDE);
        due("UNKNOWN is ahead", x.enter(-1, 0, 0, FLOAT, 0x7fc00000), UNKNOWN);
        due("enter is cut", x.enter(0, 0, 0, BYTE, 0x1ff), 0);
        x.inner(0, 0, 0, DOUBLE);
        due("seen", x.seen(), Double.doubleToLongBits(-1));
        x.plug(1, INTS, 1);
        x.row(1, 0, 1);
        due("LONG for INT", x.enter(1, 0, 0, LONG, 1), WRONG);
        due("CHAR for INT", x.enter(1, 0, 0, CHAR, -1), 0);
        x.inner(1, 0, 0, INT);
        due("seen", x.seen(), 65535);
    }

    private static void cable() {
        promise = 15;
        CordBoard x = new CordBoard();
        due("from 10", x.cable(10, 0, 9, 0, 0, 0, 0, 0), UNKNOWN);
        due("to -1", x.cable(0, 0, 0, -1, 0, 9, 0, 0), UNKNOWN);
        due("step 5", x.cable(0, 0, 5, 0, 0, 0, 0, 0), OUTSIDE);
        due("step -5", x.cable(0, 0, 0, 0, 0, -5, 0, 0), OUTSIDE);
        due("way -2", x.cable(0, 0, 0, 0, 0, 0, -2, 0), OUTSIDE);
        due("way 8", x.cable(0, 0, 0, 0, 0, 0, 8, 0), OUTSIDE);
        due("rule -1", x.cable(0, 0, 0, 0, 0, 0, 0, -1), OUTSIDE);
        due("rule 3", x.cable(0, 0, 0, 0, 0, 0, 0, 3), OUTSIDE);
        due("none was made", x.about(1), 0);
        for (int n = 0; n < 12; n++) {
            due("cable", x.cable(9, Integer.MAX_VALUE, 4, 9, Integer.MIN_VALUE, -4, n % 9 - 1, n % 3), n);
        }
        due("OUTSIDE is ahead of FULL", x.cable(0, 0, 0, 0, 0, 0, 0, 3), OUTSIDE);
        due("the 13th", x.cable(0, 0, 0, 0, 0, 0, 0, 0), FULL);
        due("told(12, 0)", x.told(12, IN), UNKNOWN);
        due("it is in", x.told(11, IN), 1);
        due("its place from", x.told(11, FROM), Integer.MAX_VALUE);
        due("its place to", x.told(11, TO), Integer.MIN_VALUE);
    }

    private static void in() {
        promise = 16;
        CordBoard x = fullDesk();
        x.cable(INT, 0, 1, LONG, 2, -1, INT, 0);
        x.tick(2);
        due("in, of one that is in", x.in(0), 0);
        due("from as at the beginning", x.told(0, FROM), 0);
        due("to as at the beginning", x.told(0, TO), 2);
        x.tick(4);
        due("it is out", x.told(0, IN), 0);
        due("in, of one that is out", x.in(0), 1);
        due("from as at the beginning", x.told(0, FROM), 0);
        due("to as at the beginning", x.told(0, TO), 2);
        due("its moves stay", x.told(0, MOVED), 5);
        due("its cause stays", x.told(0, CAUSE), 3);
        due("in(1)", x.in(1), UNKNOWN);
        due("in(-1)", x.in(-1), UNKNOWN);
    }

    private static void out() {
        promise = 17;
        CordBoard x = fullDesk();
        x.cable(INT, 0, 1, LONG, 0, 1, INT, 0);
        x.tick(1);
        due("out, of one that is in", x.out(0), 1);
        due("out, of one that is out", x.out(0), 0);
        due("it does not move", x.tick(3), 0);
        due("its place stays", x.told(0, FROM), 1);
        due("it met no cause", x.told(0, CAUSES), 0);
        due("out(1)", x.out(1), UNKNOWN);
        due("out(-1)", x.out(-1), UNKNOWN);
    }

    private static void tick() {
        promise = 18;
        CordBoard x = new CordBoard();
        due("tick(-1)", x.tick(-1), OUTSIDE);
        due("tick(9)", x.tick(9), OUTSIDE);
        due("refused, it is no tick", x.about(3), 0);
        due("tick(0)", x.tick(0), 0);
        due("tick(8)", x.tick(8), 0);
        due("ticks", x.about(3), 8);
        tickOrder();
        tickWays();
        tickThings();
        tickRules();
        tickHundredth();
    }

    private static void tickOrder() {
        CordBoard x = new CordBoard();
        x.plug(0, INT, 3);
        x.dial(0, 0, INT, 5);
        x.cable(0, 0, 0, 0, 1, 0, INT, 0);
        x.cable(0, 1, 0, 0, 2, 0, -1, 0);
        due("two cables", x.tick(1), 2);
        x.tap(0, 2, INT);
        due("the second carries what the first has brought", x.seen(), 5);
        due("eight ticks", x.tick(8), 16);
        x.cable(1, Integer.MAX_VALUE, 3, 0, Integer.MIN_VALUE, -4, -1, 1);
        x.tick(1);
        due("places go round", x.told(2, FROM), Integer.MIN_VALUE + 2);
        due("places go round", x.told(2, TO), Integer.MAX_VALUE - 3);
    }

    private static void tickWays() {
        CordBoard x = fullDesk();
        x.dial(INT, 0, INT, 16777217);
        x.cable(INT, 0, 0, DOUBLE, 0, 0, FLOAT, 0);
        x.cable(INT, 0, 0, DOUBLE, 1, 0, -1, 0);
        x.cable(DOUBLE, 0, 0, STRIP, 9, 0, INT, 1);
        x.cable(STRIP, 9, 0, INT, 0, 0, INT, 1);
        x.cable(INT, 3, 0, BYTE, 0, 0, TRUTH, 1);
        due("two of them move", x.tick(1), 2);
        x.tap(DOUBLE, 0, DOUBLE);
        due("as of FLOAT on its way", x.seen(), Double.doubleToLongBits(16777216));
        x.tap(DOUBLE, 1, DOUBLE);
        due("as it is", x.seen(), Double.doubleToLongBits(16777217));
        due("read: kinds", x.told(2, CAUSE), 2);
        due("read: kinds, side", x.told(2, SIDE), 0);
        due("read: no track", x.told(3, CAUSE), 2);
        due("read: place ahead of kinds", x.told(4, CAUSE), 3);
    }

    private static void tickThings() {
        CordBoard x = fullDesk();
        x.lay(STRIP, 0, 0);
        x.lay(STRIP, 1, 1);
        x.cable(STRIP, 0, 1, FADERS, 0, 1, -1, 1);
        due("a knob stays, a fader and nothing go", x.tick(3), 2);
        due("place 0", x.what(FADERS, 0), NONE);
        due("place 1", x.what(FADERS, 1), 1);
        due("place 2", x.what(FADERS, 2), NONE);
        x.plug(0, INTS, 2);
        x.plug(1, INTS, 2);
        x.plug(2, DOUBLES, 2);
        x.row(0, 0, 2);
        x.out(0);
        x.cable(0, 0, 0, 1, 1, 0, -1, 0);
        x.cable(0, 0, 0, 2, 1, 0, -1, 0);
        x.cable(0, 1, 0, INT, 99, 0, -1, 0);
        x.cable(0, 0, 0, INT, 99, 0, -1, 0);
        x.cable(INT, 0, 0, STRIP, 0, 0, -1, 0);
        due("a row of ints among rows of ints", x.tick(1), 1);
        x.enter(1, 1, 1, INT, 44);
        x.inner(0, 0, 1, INT);
        due("it is the same row", x.seen(), 44);
        due("a row of ints among rows of doubles", x.told(2, CAUSE), 2);
        due("nothing into a track, ahead of PLACE", x.told(3, CAUSE), 2);
        due("a row into a track: PLACE", x.told(4, CAUSE), 3);
        due("a number into a strip", x.told(5, CAUSE), 2);
        due("its side", x.told(5, SIDE), 1);
        due("it is still there", x.what(STRIP, 0), 0);
    }

    private static void tickRules() {
        CordBoard x = fullDesk();
        for (int rule = 0; rule <= 2; rule++) x.cable(INT, 1, 1, LONG, 0, 1, INT, rule);
        due("both move twice each", x.tick(2), 6);
        due("none moves", x.tick(1), 0);
        due("rule 0: it is out", x.told(0, IN), 0);
        due("rule 0: its place", x.told(0, FROM), 3);
        due("rule 1: it is in", x.told(1, IN), 1);
        due("rule 1: from", x.told(1, FROM), 4);
        due("rule 1: to", x.told(1, TO), 3);
        due("rule 2: it is in", x.told(2, IN), 1);
        due("rule 2: from", x.told(2, FROM), 1);
        due("rule 2: to", x.told(2, TO), 0);
        due("rule 2 goes on", x.tick(1), 1);
    }

    private static void tickHundredth() {
        for (int rule = 1; rule <= 2; rule++) {
            CordBoard x = new CordBoard();
            x.plug(0, INT, 1);
            x.cable(1, 0, 1, 0, 0, 1, INT, rule);
            for (int n = 0; n < 11; n++) x.tick(8);
            x.tick(8);
            x.tick(3);
            due("99 causes", x.told(0, CAUSES), 99);
            due("it is in", x.told(0, IN), 1);
            due("its place", x.told(0, FROM), rule == 1 ? 99 : 0);
            x.tick(8);
            due("100 causes", x.told(0, CAUSES), 100);
            due("it is out", x.told(0, IN), 0);
            due("its place has stayed", x.told(0, FROM), rule == 1 ? 99 : 0);
            due("in again", x.in(0), 1);
            x.tick(8);
            due("the 101st", x.told(0, CAUSES), 101);
            due("it is out", x.told(0, IN), 0);
            due("its place has stayed", x.told(0, FROM), 0);
            x.in(0);
            x.plug(1, INT, 1);
            due("it can still move", x.tick(1), 1);
            due("and is in then", x.told(0, IN), 1);
        }
    }

    private static void told() {
        promise = 19;
        CordBoard x = fullDesk();
        x.cable(INT, 1, 1, LONG, 2, -1, INT, 1);
        int[] atFirst = {1, 1, 2, 0, 0, NONE, 0};
        for (int what = 0; what <= 6; what++) due("told at first", x.told(0, what), atFirst[what]);
        x.tick(3);
        int[] then = {1, 4, -1, 2, 3, 0, 1};
        for (int what = 0; what <= 6; what++) due("told then", x.told(0, what), then[what]);
        x.in(0);
        x.plug(LONG, NOTHING, 0);
        x.tick(1);
        int[] last = {1, 2, 1, 2, 1, 1, 2};
        for (int what = 0; what <= 6; what++) due("told last", x.told(0, what), last[what]);
        x.plug(LONG, LONG, 3);
        x.tick(1);
        due("the latest cause stays", x.told(0, CAUSE), 1);
        due("its side stays", x.told(0, SIDE), 1);
        x.out(0);
        due("told of one that is out", x.told(0, IN), 0);
        due("what 7", x.told(0, 7), OUTSIDE);
        due("what -1", x.told(0, -1), OUTSIDE);
        due("UNKNOWN is ahead", x.told(1, 7), UNKNOWN);
        due("cable -1", x.told(-1, 0), UNKNOWN);
    }

    private static void level() {
        promise = 20;
        CordBoard x = fullDesk();
        for (int n = 0; n < 3; n++) {
            x.dial(BYTE, n, BYTE, -100);
            x.dial(CHAR, n, CHAR, 65535);
            x.dial(LONG, n, LONG, Long.MAX_VALUE);
        }
        due("BYTES", x.level(BYTE), 0);
        due("together", x.seen(), -300);
        due("CHARS", x.level(CHAR), 0);
        due("together", x.seen(), 196605);
        due("LONGS", x.level(LONG), 0);
        due("together, wrapping", x.seen(), Long.MAX_VALUE * 3);
        due("TRUTHS", x.level(TRUTH), WRONG);
        due("FLOATS", x.level(FLOAT), WRONG);
        due("DOUBLES", x.level(DOUBLE), WRONG);
        due("a strip", x.level(STRIP), WRONG);
        due("a cause changes nothing", x.seen(), Long.MAX_VALUE * 3);
        for (int sort = 0; sort <= 11; sort++) {
            x.level(BYTE);
            x.plug(0, sort, 0);
            due("a row without places", x.level(0), 0);
            due("together", x.seen(), 0);
        }
        x.mount(0, 0);
        due("a knob itself", x.level(0), WRONG);
        x.plug(0, NOTHING, 0);
        due("nothing", x.level(0), EMPTY);
        due("level(10)", x.level(10), UNKNOWN);
        due("level(-1)", x.level(-1), UNKNOWN);
    }

    private static void gain() {
        promise = 21;
        CordBoard x = new CordBoard();
        x.knob(Integer.MIN_VALUE, true);
        x.knob(12, false);
        due("gain(0)", x.gain(0), Integer.MIN_VALUE);
        due("gain(1)", x.gain(1), 12);
        due("gain(2)", x.gain(2), 0);
        due("gain(-1)", x.gain(-1), 0);
        due("gain of a far one", x.gain(Integer.MAX_VALUE), 0);
    }

    private static void about() {
        promise = 22;
        CordBoard x = fullDesk();
        x.cable(INT, 0, 1, LONG, 0, 1, INT, 0);
        x.cable(INT, 0, 0, LONG, 0, 0, INT, 0);
        x.cable(INT, 0, 0, LONG, 0, 0, INT, 0);
        x.out(2);
        x.tick(3);
        due("knobs", x.about(0), 2);
        due("cables", x.about(1), 3);
        due("of them in", x.about(2), 2);
        x.tick(2);
        due("of them in", x.about(2), 1);
        due("ticks", x.about(3), 5);
        due("moves", x.about(4), 8);
        due("about(5)", x.about(5), OUTSIDE);
        due("about(-1)", x.about(-1), OUTSIDE);
    }

    public static void main(String[] args) {
        newObject();
        plug();
        knob();
        mount();
        share();
        width();
        tap();
        seen();
        dial();
        lay();
        row();
        what();
        inner();
        enter();
        cable();
        in();
        out();
        tick();
        told();
        level();
        gain();
        about();
        System.out.println(wrong == 0 ? "all promises hold" : wrong + " answers are not as due");
        if (wrong != 0) System.exit(1);
    }
}
