/** Promises 1 to 22: a test for each sentence of theirs that names an edge and that the document's terms do not tell already. */
public final class PromiseEdgesTest extends Due {
    private static void aNewObject() {
        sentence("1: Nothing in the SOCKETS; no KNOBS, no CABLES");
        CordBoard used = workedDesk();
        due("the one that is used has knobs", used.about(0), 2);
        CordBoard x = new CordBoard();
        for (int socket = 0; socket <= 9; socket++) {
            due("width", x.width(socket), EMPTY);
            due("what", x.what(socket, 0), EMPTY);
        }
        for (int what = 0; what <= 4; what++) due("about", x.about(what), 0);
        for (int knob = 0; knob < 24; knob++) due("gain", x.gain(knob), 0);
        for (int cable = 0; cable < 12; cable++) due("told", x.told(cable, IN), UNKNOWN);
        due("seen", x.seen(), 0);
    }

    private static void plugOfNothing() {
        sentence("2: or nothing (13; n is not looked at)");
        for (int n : new int[] {0, 16, 17, -1, MIN, MAX}) {
            for (int socket = 0; socket <= 9; socket++) {
                CordBoard x = desk();
                due("plug with n = " + n, x.plug(socket, SORT_NOTHING, n), 1);
                due("width", x.width(socket), EMPTY);
            }
        }
    }

    private static void plugOfANewRow() {
        sentence("2: A SOCKET holds a new ROW");
        CordBoard x = desk();
        x.share(NOTHING, INT_TRACK);
        due("plug over a row", x.plug(INT_TRACK, INT, 2), 1);
        due("width of the old one, shared", x.width(NOTHING), 3);
        x.dial(INT_TRACK, 0, INT, 99);
        x.tap(NOTHING, 0, INT);
        due("seen in the old one", x.seen(), 11);
        due("plug over a knob itself", x.plug(KNOB_ITSELF, SORT_FADERS, 1), 1);
        due("what stands there", x.what(KNOB_ITSELF, 0), NONE);
    }

    private static void knobGains() {
        sentence("3: A KNOB (or FADER): its number; 21: GAIN of a KNOB; 0: there is none");
        CordBoard x = new CordBoard();
        int[] gains = {MIN, -1, 0, 1, MAX};
        for (int n = 0; n < gains.length; n++) due("knob", x.knob(gains[n], n % 2 == 0), n);
        for (int n = 0; n < gains.length; n++) due("gain", x.gain(n), gains[n]);
        for (int n : new int[] {-1, 5, 23, 24, MIN, MAX}) due("gain of none", x.gain(n), 0);
        due("seen", x.seen(), 0);
    }

    private static void mountOverAll() {
        sentence("4: A SOCKET holds a KNOB itself");
        for (int socket = 0; socket <= 9; socket++) {
            for (int knob : new int[] {KNOB, FADER}) {
                CordBoard x = desk();
                due("mount", x.mount(socket, knob), 1);
                due("width", x.width(socket), WRONG);
            }
        }
        CordBoard x = desk();
        x.mount(NOTHING, FADER);
        due("it still lies where it lay", x.what(FADERS, 0), FADER);
        due("mount of another one", x.mount(NOTHING, KNOB), 1);
        due("gain of the first", x.gain(FADER), -7);
    }

    private static void shareTheSameThing() {
        sentence("5: A SOCKET holds what another one holds, the same thing");
        CordBoard x = desk();
        due("share of a track", x.share(NOTHING, INT_TRACK), 1);
        x.dial(NOTHING, 0, INT, 5);
        x.tap(INT_TRACK, 0, INT);
        due("seen in the first", x.seen(), 5);
        x.dial(INT_TRACK, 0, INT, 6);
        x.tap(NOTHING, 0, INT);
        due("seen in the second", x.seen(), 6);
        due("share of a strip", x.share(NOTHING, KNOBS), 1);
        x.lay(NOTHING, 0, FADER);
        due("what in the first", x.what(KNOBS, 0), FADER);
        due("share of a bank", x.share(NOTHING, INTS), 1);
        x.row(NOTHING, 1, 7);
        due("what in the first", x.what(INTS, 1), 107);
        due("share of a knob itself", x.share(NOTHING, KNOB_ITSELF), 1);
        due("width", x.width(NOTHING), WRONG);
        sentence("5: what another one holds: nothing");
        x.plug(NOTHING, SORT_NOTHING, 0);
        due("share", x.share(KNOB_ITSELF, NOTHING), 1);
        due("width", x.width(KNOB_ITSELF), EMPTY);
        sentence("5: what another one holds: itself");
        for (int socket = 0; socket <= 9; socket++) {
            due("share", x.share(socket, socket), 1);
        }
        due("width of a track", x.width(INT_TRACK), 3);
        due("width of nothing", x.width(NOTHING), EMPTY);
    }

    private static void shareAndCables() {
        sentence("5: the same thing, at both ends of a CABLE");
        CordBoard x = desk();
        x.share(NOTHING, INT_TRACK);
        x.cable(INT_TRACK, 0, 1, NOTHING, 1, 1, AS_IT_IS, 0);
        due("tick", x.tick(3), 2);
        x.tap(INT_TRACK, 2, INT);
        due("the first number has gone through", x.seen(), 11);
        due("its cause", x.told(0, CAUSE), 3);
        due("its side", x.told(0, SIDE), 1);
    }

    private static void widthCauses() {
        sentence("6: EMPTY; WRONG: a KNOB itself");
        refused("width of nothing", x -> x.width(NOTHING), EMPTY);
        refused("width of a knob itself", x -> x.width(KNOB_ITSELF), WRONG);
        int[] widths = {3, 2, 2, 0, 3, 2, 3, 2};
        CordBoard x = desk();
        for (int socket = INT_TRACK; socket <= DOUBLES; socket++) due("width", x.width(socket), widths[socket]);
    }

    private static void whatIsSeen() {
        sentence("7, 8: SEEN becomes it; 0 at first");
        CordBoard x = desk();
        due("seen at first, much being dialled and entered", x.seen(), 0);
        due("tap", x.tap(INT_TRACK, 1, INT), 0);
        due("seen", x.seen(), 12);
        due("seen again", x.seen(), 12);
        due("tap as of FLOAT", x.tap(INT_TRACK, 1, FLOAT), 0);
        due("seen", x.seen(), 0x41400000);
        due("tap as of DOUBLE", x.tap(INT_TRACK, 1, DOUBLE), 0);
        due("seen", x.seen(), 0x4028000000000000L);
        x.dial(INT_TRACK, 1, INT, 4);
        x.enter(INTS, 0, 0, INT, 4);
        x.lay(KNOBS, 0, NONE);
        x.row(INTS, 0, 1);
        x.what(INT_TRACK, 0);
        x.width(INT_TRACK);
        x.plug(INT_TRACK, INT, 3);
        due("seen behind calls that show nothing", x.seen(), 0x4028000000000000L);
    }

    private static void rowsOfInts() {
        sentence("11: A new ROW of n ints (doubles, if the SOCKET holds a BANK of these)");
        for (int n : new int[] {0, 1, 16}) {
            CordBoard x = desk();
            due("row of ints", x.row(INTS, 0, n), 0);
            due("what", x.what(INTS, 0), 100 + n);
            due("inner at its end", x.inner(INTS, 0, n - 1, INT), n == 0 ? PLACE : 0);
            due("inner behind it", x.inner(INTS, 0, n, INT), PLACE);
            due("row of doubles", x.row(DOUBLES, 1, n), 0);
            due("what", x.what(DOUBLES, 1), 100 + n);
            due("inner at its end", x.inner(DOUBLES, 1, n - 1, DOUBLE), n == 0 ? PLACE : 0);
            due("inner as of LONG", x.inner(DOUBLES, 1, n - 1, LONG), n == 0 ? PLACE : WRONG);
        }
        sentence("11: A new ROW, in the place of the old one");
        CordBoard x = desk();
        x.row(INTS, 0, 2);
        x.inner(INTS, 0, 1, INT);
        due("seen", x.seen(), 0);
    }

    private static void whatStandsAtAPlace() {
        sentence("12: the number of a KNOB");
        CordBoard x = new CordBoard();
        x.plug(0, SORT_KNOBS, 1);
        for (int n = 0; n < 24; n++) {
            x.knob(0, n % 2 == 0);
            x.lay(0, 0, n);
            due("what", x.what(0, 0), n);
        }
        sentence("12: 100 more than the places of a ROW");
        x.plug(1, SORT_INTS, 1);
        x.plug(2, SORT_DOUBLES, 1);
        for (int n = 0; n <= 16; n++) {
            x.row(1, 0, n);
            x.row(2, 0, n);
            due("what of ints", x.what(1, 0), 100 + n);
            due("what of doubles", x.what(2, 0), 100 + n);
        }
        sentence("12: 200 more than the KIND of a number");
        for (int kind = TRUTH; kind <= DOUBLE; kind++) {
            x.plug(3, kind, 1);
            due("what", x.what(3, 0), 200 + kind);
        }
        sentence("12: NONE: nothing");
        due("what in a strip", desk().what(KNOBS, 1), NONE);
        due("what in a bank", desk().what(INTS, 1), NONE);
    }

    private static void innerCauses() {
        sentence("13: CAUSES of TAKE; then of READ (EMPTY: nothing stands there)");
        refused("inner in a bank", x -> x.inner(INTS, 1, 99, SHORT), EMPTY);
        refused("inner in a strip", x -> x.inner(KNOBS, 1, -1, INT), EMPTY);
        sentence("13: CAUSES of TAKE; then of READ (WRONG: no ROW does)");
        for (int j : new int[] {0, -1, 99}) {
            refused("inner of a number", x -> x.inner(INT_TRACK, 0, j, INT), WRONG);
            refused("inner of a knob", x -> x.inner(KNOBS, 0, j, INT), WRONG);
            refused("inner of a fader", x -> x.inner(FADERS, 0, j, INT), WRONG);
        }
        sentence("13: CAUSES of TAKE; then of READ: PLACE, ahead of WRONG by KINDS");
        for (int j : new int[] {-1, 2, 16, MIN, MAX}) {
            refused("inner at " + j, x -> x.inner(INTS, 0, j, INT), PLACE);
            refused("inner at " + j + " as of SHORT", x -> x.inner(INTS, 0, j, SHORT), PLACE);
        }
        refused("inner of a row without places", x -> x.inner(INTS, 2, 0, INT), PLACE);
        refused("inner as of SHORT", x -> x.inner(INTS, 0, 1, SHORT), WRONG);
        refused("inner of doubles as of FLOAT", x -> x.inner(DOUBLES, 0, 0, FLOAT), WRONG);
        sentence("13: 0; SEEN becomes it");
        CordBoard x = desk();
        due("inner", x.inner(INTS, 0, 1, INT), 0);
        due("seen", x.seen(), 32);
        due("inner as of DOUBLE", x.inner(INTS, 0, 1, DOUBLE), 0);
        due("seen", x.seen(), 0x4040000000000000L);
        due("inner at the first", x.inner(INTS, 0, 0, INT), 0);
        due("seen", x.seen(), 0);
    }

    private static void enterCauses() {
        sentence("14: WRITTEN there likewise: EMPTY: nothing stands there");
        refused("enter in a bank", x -> x.enter(INTS, 1, 99, LONG, 1), EMPTY);
        refused("enter in a strip", x -> x.enter(KNOBS, 1, -1, INT, 1), EMPTY);
        sentence("14: WRITTEN there likewise: WRONG: no ROW does");
        for (int j : new int[] {0, -1, 99}) {
            refused("enter into a number", x -> x.enter(INT_TRACK, 0, j, INT, 1), WRONG);
            refused("enter into a knob", x -> x.enter(KNOBS, 0, j, INT, 1), WRONG);
            refused("enter into a fader", x -> x.enter(FADERS, 0, j, INT, 1), WRONG);
        }
        sentence("14: WRITTEN there likewise: PLACE, ahead of WRONG by KINDS");
        for (int j : new int[] {-1, 2, 16, MIN, MAX}) {
            refused("enter at " + j, x -> x.enter(INTS, 0, j, INT, 1), PLACE);
            refused("enter at " + j + " as of LONG", x -> x.enter(INTS, 0, j, LONG, 1), PLACE);
        }
        refused("enter into a row without places", x -> x.enter(INTS, 2, 0, INT, 1), PLACE);
        refused("enter as of LONG", x -> x.enter(INTS, 0, 1, LONG, 1), WRONG);
        refused("enter of TRUTH into doubles", x -> x.enter(DOUBLES, 0, 0, TRUTH, 1), WRONG);
        sentence("14: WRITTEN there likewise: 0");
        CordBoard x = desk();
        due("enter", x.enter(INTS, 0, 0, INT, 8), 0);
        due("it is not seen", x.seen(), 0);
        x.inner(INTS, 0, 0, INT);
        due("seen", x.seen(), 8);
        x.inner(INTS, 0, 1, INT);
        due("the place beside it", x.seen(), 32);
        due("enter of a BYTE into doubles", x.enter(DOUBLES, 0, 0, BYTE, -2), 0);
        x.inner(DOUBLES, 0, 0, DOUBLE);
        due("seen", x.seen(), 0xc000000000000000L);
    }

    private static void inSetsBack() {
        sentence("16: A CABLE is IN, both places as at the beginning: 1 if it was OUT");
        CordBoard x = desk();
        x.cable(INT_TRACK, 1, 1, INT_TRACK, 2, -1, INT, 0);
        x.tick(3);
        due("it is out", x.told(0, IN), 0);
        due("its place FROM", x.told(0, FROM), 3);
        due("in", x.in(0), 1);
        due("it is in", x.told(0, IN), 1);
        due("its place FROM", x.told(0, FROM), 1);
        due("its place TO", x.told(0, TO), 2);
        sentence("16: else 0");
        x.tick(1);
        due("its place FROM", x.told(0, FROM), 2);
        due("in", x.in(0), 0);
        due("its place FROM", x.told(0, FROM), 1);
        due("its place TO", x.told(0, TO), 2);
        due("how often it moved stays", x.told(0, MOVED), 3);
        due("its causes stay", x.told(0, CAUSES), 1);
    }

    private static void outStays() {
        sentence("17: A CABLE is OUT: 1 if it was IN, else 0");
        CordBoard x = desk();
        x.cable(INT_TRACK, 0, 1, INT_TRACK, 2, -1, INT, 1);
        x.tick(1);
        due("out", x.out(0), 1);
        due("out again", x.out(0), 0);
        due("its place FROM stays", x.told(0, FROM), 1);
        due("its place TO stays", x.told(0, TO), 1);
        due("it is no cause", x.told(0, CAUSES), 0);
        x.in(0);
        due("out, being in again", x.out(0), 1);
        x = desk();
        x.cable(NOTHING, 0, 0, NOTHING, 0, 0, INT, 0);
        x.tick(1);
        due("out, by its rule already", x.out(0), 0);
    }

    private static void ticksOfNone() {
        sentence("18: n TICKS, one after the other: n = 0");
        CordBoard x = desk();
        x.cable(INT_TRACK, 0, 1, INT_TRACK, 1, 1, INT, 0);
        due("tick", x.tick(0), 0);
        due("its place", x.told(0, FROM), 0);
        due("about ticks", x.about(3), 0);
        sentence("18: n TICKS, one after the other: n = 8");
        x = desk();
        x.cable(INT_TRACK, 0, 0, INT_TRACK, 1, 0, INT, 0);
        x.cable(NOTHING, 0, 1, INT_TRACK, 1, 0, INT, 1);
        due("tick", x.tick(8), 8);
        due("told of its moves", x.told(0, MOVED), 8);
        due("told of the causes", x.told(1, CAUSES), 8);
        due("about ticks", x.about(3), 8);
        due("tick without a cable", new CordBoard().tick(8), 0);
        sentence("18: how often a CABLE MOVED, in these TICKS alone");
        due("tick once more", x.tick(1), 1);
        due("told of its moves", x.told(0, MOVED), 9);
    }

    private static void levels() {
        sentence("20: All places of a SOCKET, READ as LONG, together");
        long[] bits = {0, -128, 65535, -32768, MIN, Long.MIN_VALUE + 5};
        for (int kind = BYTE; kind <= LONG; kind++) {
            CordBoard x = new CordBoard();
            x.plug(0, kind, 16);
            for (int i = 0; i < 15; i++) x.dial(0, i, kind, bits[kind]);
            x.dial(0, 15, kind, 1);
            due("level of " + kind, x.level(0), 0);
            due("seen", x.seen(), bits[kind] * 15 + 1);
        }
        sentence("20: (wrapping)");
        CordBoard x = new CordBoard();
        x.plug(0, LONG, 2);
        x.dial(0, 0, LONG, Long.MAX_VALUE);
        x.dial(0, 1, LONG, 1);
        due("level beyond the greatest", x.level(0), 0);
        due("seen", x.seen(), Long.MIN_VALUE);
        x.dial(0, 0, LONG, Long.MIN_VALUE);
        x.dial(0, 1, LONG, -1);
        due("level below the least", x.level(0), 0);
        due("seen", x.seen(), Long.MAX_VALUE);
        x.plug(0, INT, 2);
        x.dial(0, 0, INT, MAX);
        x.dial(0, 1, INT, 1);
        due("level of INTS is a LONG", x.level(0), 0);
        due("seen", x.seen(), 2147483648L);
    }

    private static void levelCauses() {
        sentence("20: EMPTY");
        refused("level", x -> x.level(NOTHING), EMPTY);
        sentence("20: WRONG");
        int[] wrong = {DOUBLE_TRACK, TRUTH_TRACK, KNOBS, FADERS, INTS, DOUBLES, KNOB_ITSELF};
        for (int socket : wrong) refused("level of " + socket, x -> x.level(socket), WRONG);
        CordBoard x = desk();
        for (int sort : new int[] {TRUTH, FLOAT, DOUBLE, SORT_KNOBS, SORT_FADERS, SORT_INTS, SORT_DOUBLES}) {
            x.plug(NOTHING, sort, 1);
            due("level of one place of " + sort, x.level(NOTHING), WRONG);
        }
        sentence("20: (not of a ROW without places: 0)");
        for (int sort = TRUTH; sort <= SORT_DOUBLES; sort++) {
            x.plug(NOTHING, sort, 0);
            x.tap(INT_TRACK, 0, INT);
            due("level of " + sort, x.level(NOTHING), 0);
            due("seen", x.seen(), 0);
        }
    }

    private static void aboutAll() {
        sentence("22: 0 KNOBS, 1 CABLES, 2 of them IN, 3 TICKS since the beginning, 4 MOVES");
        CordBoard x = desk();
        x.cable(INT_TRACK, 0, 1, INT_TRACK, 0, 1, INT, 0);
        x.cable(INT_TRACK, 0, 0, INT_TRACK, 0, 0, INT, 0);
        x.cable(NOTHING, 0, 0, INT_TRACK, 0, 0, INT, 1);
        x.cable(NOTHING, 0, 0, INT_TRACK, 0, 0, INT, 0);
        x.tick(2);
        x.tick(0);
        x.tick(9);
        x.tick(5);
        int[] want = {2, 4, 2, 7, 10};
        for (int what = 0; what <= 4; what++) due("about(" + what + ")", x.about(what), want[what]);
        x.in(0);
        x.out(1);
        x.out(2);
        due("about those in", x.about(2), 1);
        due("about cables", x.about(1), 4);
    }

    private static void fiveHundredAndTwelveCalls() {
        sentence("An object is used for at most 512 calls");
        CordBoard x = new CordBoard();
        for (int n = 0; n < 24; n++) x.knob(n, true);
        for (int n = 0; n < 12; n++) x.cable(0, 0, 0, 1, 0, 0, LONG, 1);
        x.plug(0, LONG, 16);
        x.plug(1, DOUBLE, 16);
        for (int n = 0; n < 472; n++) due("tick", x.tick(8), 96);
        due("the last but one", x.about(3), 8 * 472);
        due("the last", x.about(4), 96 * 472);
    }

    public static void main(String[] args) {
        aNewObject();
        plugOfNothing();
        plugOfANewRow();
        knobGains();
        mountOverAll();
        shareTheSameThing();
        shareAndCables();
        widthCauses();
        whatIsSeen();
        rowsOfInts();
        whatStandsAtAPlace();
        innerCauses();
        enterCauses();
        inSetsBack();
        outStays();
        ticksOfNone();
        levels();
        levelCauses();
        aboutAll();
        fiveHundredAndTwelveCalls();
        finish();
    }
}
