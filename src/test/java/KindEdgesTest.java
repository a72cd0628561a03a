/** KINDS of numbers: a test for each sentence of the document's first part that names an edge. */
public final class KindEdgesTest extends Due {
    /** The least and the greatest numbers of each kind, and those where widening has to round. */
    private static final long[][] NUMBERS = {
        {0, 1},
        {-128, -1, 0, 127},
        {0, 32767, 32768, 65535},
        {-32768, -1, 0, 32767},
        {MIN, -16777217, -1, 0, 16777215, 16777216, 16777217, 16777219, 2147483583, 2147483584, MAX},
        {Long.MIN_VALUE, Long.MIN_VALUE + 1, -9007199254740993L, -1, 0, 16777217, 9007199254740991L, 9007199254740992L,
            9007199254740993L, 9007199254740995L, Long.MAX_VALUE - 512, Long.MAX_VALUE - 511, Long.MAX_VALUE},
        {0, MIN, 1, MIN + 1, 0x007fffff, 0x00800000, 0x3f800001, 0x7f7fffff, 0x7f800000, (int) 0xff800000L},
        {0, Long.MIN_VALUE, 1, 0x000fffffffffffffL, 0x0010000000000000L, 0x7fefffffffffffffL, 0x7ff0000000000000L,
            0xfff0000000000000L}};

    /** By the number of a kind: the kinds that it goes for. */
    private static final String[] GOES = {"0", "134567", "24567", "34567", "4567", "567", "67", "7"};

    /** What a track of a kind tells as of that kind, when the bits were given as of it. */
    private static long kept(int kind, long bits) {
        CordBoard x = new CordBoard();
        x.plug(0, kind, 1);
        due("dial of " + bits + " as of " + kind, x.dial(0, 0, kind, bits), 0);
        due("tap as of " + kind, x.tap(0, 0, kind), 0);
        return x.seen();
    }

    private static void eachNumberIsToldByItsBits() {
        sentence("told by BITS: whole ones by themselves, FLOAT and DOUBLE by those of IEEE");
        for (int kind = TRUTH; kind <= DOUBLE; kind++) {
            for (long bits : NUMBERS[kind]) due("seen of kind " + kind, kept(kind, bits), bits);
        }
        sentence("TRUTH 1, 0");
        due("seen", kept(TRUTH, 1), 1);
        due("seen", kept(TRUTH, 0), 0);
        sentence("CHAR from 0 on");
        due("seen of the greatest", kept(CHAR, 65535), 65535);
        due("seen of the first beyond SHORT", kept(CHAR, 32768), 32768);
        sentence("of a FLOAT as an int");
        due("seen of -1", kept(FLOAT, 0xbf800000L), -1082130432L);
        due("seen of -0", kept(FLOAT, 0x80000000L), MIN);
    }

    private static void bitsAreCut() {
        sentence("Given BITS are cut to the kind's lowest ones: BYTE");
        due("seen of 128", kept(BYTE, 128), -128);
        due("seen of 255", kept(BYTE, 255), -1);
        due("seen of 256", kept(BYTE, 256), 0);
        due("seen of -129", kept(BYTE, -129), 127);
        due("seen of the greatest", kept(BYTE, Long.MAX_VALUE), -1);
        sentence("Given BITS are cut to the kind's lowest ones: CHAR");
        due("seen of 65536", kept(CHAR, 65536), 0);
        due("seen of -1", kept(CHAR, -1), 65535);
        due("seen of -32768", kept(CHAR, -32768), 32768);
        due("seen of -65536", kept(CHAR, -65536), 0);
        sentence("Given BITS are cut to the kind's lowest ones: SHORT");
        due("seen of 32768", kept(SHORT, 32768), -32768);
        due("seen of 65535", kept(SHORT, 65535), -1);
        due("seen of 65536", kept(SHORT, 65536), 0);
        due("seen of -32769", kept(SHORT, -32769), 32767);
        sentence("Given BITS are cut to the kind's lowest ones: INT");
        due("seen of 2147483648", kept(INT, 2147483648L), MIN);
        due("seen of 4294967295", kept(INT, 4294967295L), -1);
        due("seen of 4294967296", kept(INT, 4294967296L), 0);
        due("seen of -2147483649", kept(INT, -2147483649L), MAX);
        sentence("Given BITS are cut to the kind's lowest ones: LONG and DOUBLE have all");
        due("seen of the least", kept(LONG, Long.MIN_VALUE), Long.MIN_VALUE);
        due("seen of the greatest", kept(LONG, Long.MAX_VALUE), Long.MAX_VALUE);
        due("seen of a negative DOUBLE", kept(DOUBLE, 0xbff0000000000001L), 0xbff0000000000001L);
        sentence("Given BITS are cut to the kind's lowest ones: FLOAT");
        due("seen of 2 to the 32", kept(FLOAT, 1L << 32), 0);
        due("seen of -1 with more ahead", kept(FLOAT, 0x12345678bf800000L), -1082130432L);
        sentence("Given BITS are cut (TRUTH: the lowest)");
        due("seen of 2", kept(TRUTH, 2), 0);
        due("seen of 3", kept(TRUTH, 3), 1);
        due("seen of -1", kept(TRUTH, -1), 1);
        due("seen of the least", kept(TRUTH, Long.MIN_VALUE), 0);
    }

    private static void enteredBitsAreCut() {
        sentence("Given BITS are cut, of a number that is entered too");
        int[] kinds = {BYTE, CHAR, SHORT, INT};
        long[] bits = {0x1ff, -1, 0x18000, 0x180000000L};
        long[] cut = {-1, 65535, -32768, MIN};
        for (int n = 0; n < kinds.length; n++) {
            CordBoard x = desk();
            due("enter", x.enter(INTS, 0, 0, kinds[n], bits[n]), 0);
            x.inner(INTS, 0, 0, INT);
            due("seen of kind " + kinds[n], x.seen(), cut[n]);
        }
        CordBoard x = desk();
        due("enter of a FLOAT", x.enter(DOUBLES, 0, 0, FLOAT, 0x7ff800003f800000L), 0);
        x.inner(DOUBLES, 0, 0, DOUBLE);
        due("seen", x.seen(), Double.doubleToLongBits(1));
    }

    private static final long[] NO_FLOATS = {0x7f800001L, 0x7fc00000L, 0x7fffffffL, 0xff800001L, 0xffffffffL, -1, 0x17fc00000L};
    private static final long[] NO_DOUBLES = {0x7ff0000000000001L, 0x7ff8000000000000L, Long.MAX_VALUE, 0xfff0000000000001L, -1};

    private static void noNumbersAreNotTaken() {
        sentence("No numbers (NaN) are not taken: FLOAT");
        for (long bits : NO_FLOATS) {
            refused("dial of " + bits, x -> x.dial(DOUBLE_TRACK, 0, FLOAT, bits), OUTSIDE);
            refused("enter of " + bits, x -> x.enter(DOUBLES, 0, 0, FLOAT, bits), OUTSIDE);
        }
        sentence("No numbers (NaN) are not taken: DOUBLE");
        for (long bits : NO_DOUBLES) {
            refused("dial of " + bits, x -> x.dial(DOUBLE_TRACK, 0, DOUBLE, bits), OUTSIDE);
            refused("enter of " + bits, x -> x.enter(DOUBLES, 0, 0, DOUBLE, bits), OUTSIDE);
        }
        sentence("No numbers (NaN) are not taken: what is none of another kind is one of its own");
        due("the greatest of FLOAT", kept(FLOAT, 0x7f7fffff), 0x7f7fffff);
        due("an infinity of FLOAT", kept(FLOAT, 0x7f800000), 0x7f800000);
        due("the other one", kept(FLOAT, 0xff800000L), (int) 0xff800000L);
        due("one of DOUBLE, cut to FLOAT", kept(FLOAT, 0x7ff8000000000000L), 0);
        due("an infinity of DOUBLE", kept(DOUBLE, 0x7ff0000000000000L), 0x7ff0000000000000L);
        due("the other one", kept(DOUBLE, 0xfff0000000000000L), 0xfff0000000000000L);
        due("one of FLOAT as of DOUBLE", kept(DOUBLE, 0x7fc00000L), 0x7fc00000L);
        due("one of FLOAT as of INT", kept(INT, 0x7fc00000L), 0x7fc00000L);
        due("one of DOUBLE as of LONG", kept(LONG, -1), -1);
    }

    /** The ways of a number from a kind to another one: each answers 0, or the answer of its cause. */
    private static final int BY_TAP = 0, BY_DIAL = 1, BY_LAYING = 2, BY_READING_CABLE = 3, BY_WRITING_CABLE = 4, WAYS = 5;

    private static int sent(CordBoard x, int way, int kind, int other, long bits) {
        x.plug(0, kind, 1);
        x.plug(1, other, 1);
        x.dial(0, 0, kind, bits);
        switch (way) {
            case BY_TAP: return x.tap(0, 0, other);
            case BY_DIAL: return x.dial(1, 0, kind, bits);
            case BY_LAYING: return carried(x, 0, 0, 1, 0, AS_IT_IS);
            case BY_READING_CABLE: return carried(x, 0, 0, 1, 0, other);
            default: return carried(x, 0, 0, 1, 0, kind);
        }
    }

    private static long asOf(int kind, int other, long bits) {
        if (other < FLOAT || kind == other) return bits;
        if (kind == FLOAT) return Double.doubleToRawLongBits(Float.intBitsToFloat((int) bits));
        return other == FLOAT ? Float.floatToRawIntBits(bits) : Double.doubleToRawLongBits(bits);
    }

    private static void whatGoes(int way, int kind, int other) {
        String call = "way " + way + " of kind " + kind + " for " + other;
        int onSide = way == BY_LAYING || way == BY_WRITING_CABLE ? AT_TO : 0;
        boolean goes = GOES[kind].indexOf('0' + other) >= 0;
        for (long bits : NUMBERS[kind]) {
            CordBoard x = new CordBoard();
            due(call, sent(x, way, kind, other, bits), goes ? 0 : WRONG + onSide);
            if (way != BY_TAP) x.tap(1, 0, other);
            due("seen by " + call + " of " + bits, x.seen(), goes ? asOf(kind, other, bits) : 0);
        }
    }

    private static void whatGoesForWhat() {
        String[] names = {"TRUTH", "BYTE", "CHAR", "SHORT", "INT", "LONG", "FLOAT", "DOUBLE"};
        for (int kind = TRUTH; kind <= DOUBLE; kind++) {
            for (int other = TRUTH; other <= DOUBLE; other++) {
                boolean goes = GOES[kind].indexOf('0' + other) >= 0;
                sentence(goes ? names[kind] + " GOES FOR " + names[other] : "Nothing else goes: " + names[kind] + " for " + names[other]);
                for (int way = 0; way < WAYS; way++) whatGoes(way, kind, other);
            }
        }
    }

    private static void whatGoesForRows() {
        sentence("A number of a KIND GOES FOR its own, in the ROWS of BANKS too");
        for (int kind = TRUTH; kind <= DOUBLE; kind++) {
            CordBoard x = desk();
            due("inner of ints as of " + kind, x.inner(INTS, 0, 1, kind), GOES[INT].indexOf('0' + kind) >= 0 ? 0 : WRONG);
            due("inner of doubles as of " + kind, x.inner(DOUBLES, 0, 0, kind), kind == DOUBLE ? 0 : WRONG);
            due("enter into ints of " + kind, x.enter(INTS, 0, 1, kind, 1), GOES[kind].indexOf('4') >= 0 ? 0 : WRONG);
            due("enter into doubles of " + kind, x.enter(DOUBLES, 0, 0, kind, 1), GOES[kind].indexOf('7') >= 0 ? 0 : WRONG);
        }
    }

    private static long widened(int kind, int other, long bits) {
        CordBoard x = new CordBoard();
        x.plug(0, other, 1);
        x.dial(0, 0, kind, bits);
        x.tap(0, 0, other);
        return x.seen();
    }

    private static void widenedToTheNearest() {
        sentence("WIDENED (to the nearest): FLOAT has 24 digits");
        due("16777215", widened(INT, FLOAT, 16777215), 0x4b7fffff);
        due("16777216", widened(INT, FLOAT, 16777216), 0x4b800000);
        due("16777217, as near to two", widened(INT, FLOAT, 16777217), 0x4b800000);
        due("16777218", widened(INT, FLOAT, 16777218), 0x4b800001);
        due("16777219, as near to two", widened(INT, FLOAT, 16777219), 0x4b800002);
        due("33554433, nearer below", widened(INT, FLOAT, 33554433), 0x4c000000);
        due("33554435, nearer above", widened(INT, FLOAT, 33554435), 0x4c000001);
        due("33554431, up to the next power", widened(INT, FLOAT, 33554431), 0x4c000000);
        due("-16777217", widened(INT, FLOAT, -16777217), (int) 0xcb800000L);
        due("-16777219", widened(INT, FLOAT, -16777219), (int) 0xcb800002L);
        due("the greatest INT", widened(INT, FLOAT, MAX), 0x4f000000);
        due("the least INT", widened(INT, FLOAT, MIN), (int) 0xcf000000L);
        due("the greatest LONG", widened(LONG, FLOAT, Long.MAX_VALUE), 0x5f000000);
        due("the least LONG", widened(LONG, FLOAT, Long.MIN_VALUE), (int) 0xdf000000L);
        due("a LONG just above the middle, not by way of DOUBLE", widened(LONG, FLOAT, 0x4000004000000001L), 0x5e800001);
        sentence("WIDENED (to the nearest): DOUBLE has 53 digits");
        due("9007199254740991", widened(LONG, DOUBLE, 9007199254740991L), 0x433fffffffffffffL);
        due("9007199254740993, as near to two", widened(LONG, DOUBLE, 9007199254740993L), 0x4340000000000000L);
        due("9007199254740995, as near to two", widened(LONG, DOUBLE, 9007199254740995L), 0x4340000000000002L);
        due("18014398509481985, nearer below", widened(LONG, DOUBLE, 18014398509481985L), 0x4350000000000000L);
        due("18014398509481987, nearer above", widened(LONG, DOUBLE, 18014398509481987L), 0x4350000000000001L);
        due("-9007199254740995", widened(LONG, DOUBLE, -9007199254740995L), 0xc340000000000002L);
        due("the greatest LONG", widened(LONG, DOUBLE, Long.MAX_VALUE), 0x43e0000000000000L);
        due("the least LONG", widened(LONG, DOUBLE, Long.MIN_VALUE), 0xc3e0000000000000L);
        due("the least INT", widened(INT, DOUBLE, MIN), 0xc1e0000000000000L);
    }

    private static void widenedFloats() {
        sentence("FLOAT for DOUBLE");
        due("0", widened(FLOAT, DOUBLE, 0), 0);
        due("-0", widened(FLOAT, DOUBLE, MIN), Long.MIN_VALUE);
        due("the smallest", widened(FLOAT, DOUBLE, 1), 0x36a0000000000000L);
        due("the smallest below 0", widened(FLOAT, DOUBLE, MIN + 1), 0xb6a0000000000000L);
        due("the last without a leading one", widened(FLOAT, DOUBLE, 0x007fffff), 0x380fffffc0000000L);
        due("the first with a leading one", widened(FLOAT, DOUBLE, 0x00800000), 0x3810000000000000L);
        due("the greatest", widened(FLOAT, DOUBLE, 0x7f7fffff), 0x47efffffe0000000L);
        due("an infinity", widened(FLOAT, DOUBLE, 0x7f800000), 0x7ff0000000000000L);
        due("the other one", widened(FLOAT, DOUBLE, 0xff800000L), 0xfff0000000000000L);
    }

    private static void widenedTwice() {
        sentence("READ, WRITE as of that KIND: a number is rounded at each end");
        CordBoard x = new CordBoard();
        x.plug(0, LONG, 1);
        x.plug(1, DOUBLE, 2);
        x.dial(0, 0, LONG, 16777217);
        carried(x, 0, 0, 1, 0, FLOAT);
        carried(x, 0, 0, 1, 1, AS_IT_IS);
        x.tap(1, 0, DOUBLE);
        due("as of FLOAT", x.seen(), Double.doubleToLongBits(16777216));
        x.tap(1, 1, DOUBLE);
        due("as it is", x.seen(), Double.doubleToLongBits(16777217));
    }

    public static void main(String[] args) {
        eachNumberIsToldByItsBits();
        bitsAreCut();
        enteredBitsAreCut();
        noNumbersAreNotTaken();
        whatGoesForWhat();
        whatGoesForRows();
        widenedToTheNearest();
        widenedFloats();
        widenedTwice();
        finish();
    }
}
