/** SOCKETS, KNOBS and the order of the CAUSES: a test for each sentence of the document's second part that names an edge. */
public final class CauseEdgesTest extends Due {
    /** Places that a row of 3 does not have. */
    private static final int[] NO_PLACES_OF_3 = {-1, 3, 16, MIN, MAX};

    // ---- sockets and knobs

    private static void socketsAreTen() {
        sentence("SOCKETS 0 .. 9");
        CordBoard x = new CordBoard();
        for (int socket = 0; socket <= 9; socket++) {
            due("plug", x.plug(socket, INT, socket), 1);
        }
        for (int socket = 0; socket <= 9; socket++) due("width", x.width(socket), socket);
        for (int socket : NO_SOCKETS) refused("width(" + socket + ")", y -> y.width(socket), UNKNOWN);
    }

    private static void socketsHoldNothingAtFirst() {
        sentence("SOCKETS hold nothing (at first)");
        CordBoard x = new CordBoard();
        for (int socket = 0; socket <= 9; socket++) due("width", x.width(socket), EMPTY);
    }

    private static void rowsHaveUpToSixteenPlaces() {
        sentence("a ROW of 0 .. 16 places");
        for (int sort = TRUTH; sort <= SORT_DOUBLES; sort++) {
            CordBoard x = new CordBoard();
            for (int n = 0; n <= 16; n++) {
                due("plug", x.plug(0, sort, n), 1);
                due("width", x.width(0), n);
                due("what of the last", x.what(0, n - 1), n == 0 ? PLACE : sort <= DOUBLE ? 200 + sort : NONE);
                due("what behind it", x.what(0, n), PLACE);
            }
        }
    }

    private static void tracksAreZeroAtFirst() {
        sentence("a TRACK of KIND 0 .. 7 (0 at first)");
        for (int kind = TRUTH; kind <= DOUBLE; kind++) {
            CordBoard x = workedDesk();
            x.plug(0, kind, 16);
            for (int i = 0; i < 16; i++) {
                x.tap(DOUBLE_TRACK, 0, DOUBLE);
                due("tap", x.tap(0, i, kind), 0);
                due("seen", x.seen(), 0);
            }
            x.dial(0, 0, kind, 1);
            x.plug(0, kind, 16);
            x.tap(0, 0, kind);
            due("seen in a new one", x.seen(), 0);
        }
    }

    private static void othersHaveNothingInThemAtFirst() {
        sentence("(nothing in them at first)");
        for (int sort = SORT_KNOBS; sort <= SORT_DOUBLES; sort++) {
            CordBoard x = desk();
            x.plug(0, sort, 16);
            for (int i = 0; i < 16; i++) due("what", x.what(0, i), NONE);
        }
        sentence("BANKS of ROWS: a new ROW has 0 in each place");
        CordBoard x = workedDesk();
        x.row(INTS, 1, 16);
        x.row(DOUBLES, 1, 16);
        for (int j = 0; j < 16; j++) {
            x.inner(INTS, 1, j, INT);
            due("seen of ints", x.seen(), 0);
            x.inner(DOUBLES, 1, j, DOUBLE);
            due("seen of doubles", x.seen(), 0);
        }
    }

    private static void knobsAreTwentyFour() {
        sentence("KNOBS, 24 at most, numbered as they come");
        CordBoard x = new CordBoard();
        for (int n = 0; n < 24; n++) {
            due("mount of the next", x.mount(0, n), UNKNOWN);
            due("knob", x.knob(100 + n, n % 2 == 1), n);
        }
        due("the 25th knob", x.knob(1, false), FULL);
        due("the 25th fader", x.knob(1, true), FULL);
        due("about", x.about(0), 24);
        due("gain of the first", x.gain(0), 100);
        due("gain of the last", x.gain(23), 123);
        due("gain of none", x.gain(24), 0);
        due("mount of the last", x.mount(0, 23), 1);
        due("mount of none", x.mount(0, 24), UNKNOWN);
    }

    private static void someKnobsAreFaders() {
        sentence("some are FADERS (an heir)");
        CordBoard x = desk();
        due("a fader among knobs", x.lay(KNOBS, 1, FADER), 0);
        due("a fader among faders", x.lay(FADERS, 1, FADER), 0);
        due("a knob among faders", x.lay(FADERS, 1, KNOB), WRONG);
        due("a knob among knobs", x.lay(KNOBS, 1, KNOB), 0);
    }

    // ---- READ and WRITE

    private static final int[] NO_TRACKS = {KNOBS, FADERS, INTS, DOUBLES, KNOB_ITSELF};

    private static void readIsEmptyFirst() {
        sentence("READ: EMPTY, ahead of all");
        refused("tap", x -> x.tap(NOTHING, MIN, TRUTH), EMPTY);
        due("a cable", carried(desk(), NOTHING, -1, NOTHING, -1, TRUTH), EMPTY);
    }

    private static void readIsWrongOfNoTrack() {
        sentence("READ: WRONG: it is no TRACK, ahead of PLACE");
        for (int socket : NO_TRACKS) {
            refused("tap at a place", x -> x.tap(socket, 0, INT), WRONG);
            refused("tap at none", x -> x.tap(socket, 99, INT), WRONG);
            due("a cable", carried(desk(), socket, 99, INT_TRACK, 0, INT), WRONG);
        }
        CordBoard x = desk();
        x.plug(NOTHING, SORT_INTS, 0);
        due("tap at a bank without places", x.tap(NOTHING, 0, INT), WRONG);
    }

    private static void readHasNoSuchPlace() {
        sentence("READ: PLACE (no such one), ahead of WRONG by KINDS");
        for (int i : NO_PLACES_OF_3) {
            refused("tap at " + i, x -> x.tap(INT_TRACK, i, INT), PLACE);
            refused("tap at " + i + " as of TRUTH", x -> x.tap(INT_TRACK, i, TRUTH), PLACE);
            due("a cable", carried(desk(), INT_TRACK, i, INT_TRACK, 0, TRUTH), PLACE);
        }
        refused("tap at a track without places", x -> x.tap(NO_PLACES, 0, LONG), PLACE);
        CordBoard x = desk();
        due("tap at the first", x.tap(INT_TRACK, 0, INT), 0);
        due("seen", x.seen(), 11);
        due("tap at the last", x.tap(INT_TRACK, 2, INT), 0);
        due("seen", x.seen(), 13);
        x.plug(0, INT, 16);
        due("tap at the 16th", x.tap(0, 15, INT), 0);
        due("tap at the 17th", x.tap(0, 16, INT), PLACE);
    }

    private static void readIsWrongByKinds() {
        sentence("WRONG: by KINDS (READ: the TRACK's goes for it)");
        refused("tap of INT as of SHORT", x -> x.tap(INT_TRACK, 0, SHORT), WRONG);
        refused("tap of DOUBLE as of LONG", x -> x.tap(DOUBLE_TRACK, 0, LONG), WRONG);
        due("tap of INT as of LONG", desk().tap(INT_TRACK, 0, LONG), 0);
        due("a cable as of SHORT", carried(desk(), INT_TRACK, 0, INT_TRACK, 0, SHORT), WRONG);
        due("a cable as of INT", carried(desk(), INT_TRACK, 0, INT_TRACK, 0, INT), 0);
    }

    private static void writeIsEmptyFirst() {
        sentence("WRITE: EMPTY, ahead of all");
        refused("dial", x -> x.dial(NOTHING, MIN, TRUTH, 1), EMPTY);
        due("a cable", carried(desk(), INT_TRACK, 0, NOTHING, -1, INT), EMPTY + AT_TO);
    }

    private static void writeIsWrongOfNoTrack() {
        sentence("WRITE: WRONG: it is no TRACK, ahead of PLACE");
        for (int socket : NO_TRACKS) {
            refused("dial at a place", x -> x.dial(socket, 0, INT, 1), WRONG);
            refused("dial at none", x -> x.dial(socket, 99, INT, 1), WRONG);
            due("a cable", carried(desk(), INT_TRACK, 0, socket, 99, INT), WRONG + AT_TO);
        }
    }

    private static void writeHasNoSuchPlace() {
        sentence("WRITE: PLACE (no such one), ahead of WRONG by KINDS");
        for (int i : NO_PLACES_OF_3) {
            refused("dial at " + i, x -> x.dial(INT_TRACK, i, INT, 1), PLACE);
            refused("dial at " + i + " as of TRUTH", x -> x.dial(INT_TRACK, i, TRUTH, 1), PLACE);
            due("a cable", carried(desk(), TRUTH_TRACK, 0, INT_TRACK, i, TRUTH), PLACE + AT_TO);
        }
        refused("dial at a track without places", x -> x.dial(NO_PLACES, 0, LONG, 1), PLACE);
        CordBoard x = desk();
        x.plug(0, INT, 16);
        due("dial at the first", x.dial(0, 0, INT, 1), 0);
        due("dial at the 16th", x.dial(0, 15, INT, 2), 0);
        due("dial at the 17th", x.dial(0, 16, INT, 4), PLACE);
        x.level(0);
        due("seen of all", x.seen(), 3);
    }

    private static void writeIsWrongByKinds() {
        sentence("WRONG: by KINDS (WRITE: it goes for the TRACK's)");
        refused("dial of LONG into INT", x -> x.dial(INT_TRACK, 0, LONG, 1), WRONG);
        refused("dial of TRUTH into DOUBLE", x -> x.dial(DOUBLE_TRACK, 0, TRUTH, 1), WRONG);
        due("dial of SHORT into INT", desk().dial(INT_TRACK, 0, SHORT, 1), 0);
        due("a cable as of LONG", carried(desk(), INT_TRACK, 0, INT_TRACK, 1, LONG), WRONG + AT_TO);
    }

    // ---- TAKE

    private static void takeIsEmptyFirst() {
        sentence("TAKE: EMPTY, ahead of all");
        refused("what", x -> x.what(NOTHING, MIN), EMPTY);
        refused("inner", x -> x.inner(NOTHING, -1, -1, TRUTH), EMPTY);
        refused("enter", x -> x.enter(NOTHING, -1, -1, TRUTH, 1), EMPTY);
        due("a cable", carried(desk(), NOTHING, -1, NOTHING, -1, AS_IT_IS), EMPTY);
    }

    private static void takeIsWrongOfAKnob() {
        sentence("TAKE: WRONG: a KNOB itself, ahead of PLACE");
        for (int i : new int[] {0, -1, 99}) {
            refused("what", x -> x.what(KNOB_ITSELF, i), WRONG);
            refused("inner", x -> x.inner(KNOB_ITSELF, i, 0, INT), WRONG);
            refused("enter", x -> x.enter(KNOB_ITSELF, i, 0, INT, 1), WRONG);
            due("a cable", carried(desk(), KNOB_ITSELF, i, KNOBS, 0, AS_IT_IS), WRONG);
        }
    }

    private static void takeHasNoSuchPlace() {
        sentence("TAKE: PLACE (no such one)");
        for (int socket : new int[] {INT_TRACK, KNOBS, INTS}) {
            for (int i : NO_PLACES_OF_3) {
                refused("what at " + i, x -> x.what(socket, i), PLACE);
                refused("inner at " + i, x -> x.inner(socket, i, 0, INT), PLACE);
                refused("enter at " + i, x -> x.enter(socket, i, 0, INT, 1), PLACE);
                due("a cable", carried(desk(), socket, i, socket, 0, AS_IT_IS), PLACE);
            }
        }
        due("what at the last", desk().what(KNOBS, 2), FADER);
        due("what at the first", desk().what(KNOBS, 0), KNOB);
    }

    // ---- LAY

    private static void layIsEmptyFirst() {
        sentence("LAY: EMPTY, ahead of all");
        refused("lay of nothing", x -> x.lay(NOTHING, -1, NONE), EMPTY);
        refused("lay of a knob", x -> x.lay(NOTHING, 99, KNOB), EMPTY);
        refused("row", x -> x.row(NOTHING, -1, 1), EMPTY);
        due("a cable", carried(desk(), INT_TRACK, 0, NOTHING, -1, AS_IT_IS), EMPTY + AT_TO);
    }

    private static void layIsWrongAtAKnob() {
        sentence("LAY: WRONG: a KNOB itself, ahead of PLACE");
        for (int i : new int[] {0, -1, 99}) {
            refused("lay of nothing", x -> x.lay(KNOB_ITSELF, i, NONE), WRONG);
            refused("lay of a knob", x -> x.lay(KNOB_ITSELF, i, KNOB), WRONG);
            refused("row", x -> x.row(KNOB_ITSELF, i, 1), WRONG);
            due("a cable", carried(desk(), KNOBS, 1, KNOB_ITSELF, i, AS_IT_IS), WRONG + AT_TO);
        }
    }

    private static void layOfNothingIntoATrack() {
        sentence("LAY into a TRACK: WRONG: it is nothing, ahead of PLACE");
        for (int i : new int[] {0, -1, 3, MIN, MAX}) {
            refused("lay", x -> x.lay(INT_TRACK, i, NONE), WRONG);
            due("a cable", carried(desk(), KNOBS, 1, INT_TRACK, i, AS_IT_IS), WRONG + AT_TO);
        }
        refused("lay into a track without places", x -> x.lay(NO_PLACES, 0, NONE), WRONG);
    }

    private static void layHasNoSuchPlaceInATrack() {
        sentence("LAY into a TRACK: PLACE, ahead of WRONG: it is no number, or one that does not go");
        for (int i : NO_PLACES_OF_3) {
            refused("lay of a knob", x -> x.lay(INT_TRACK, i, KNOB), PLACE);
            refused("row", x -> x.row(INT_TRACK, i, 1), PLACE);
            due("a cable with a knob", carried(desk(), KNOBS, 0, INT_TRACK, i, AS_IT_IS), PLACE + AT_TO);
            due("a cable with a row", carried(desk(), INTS, 0, INT_TRACK, i, AS_IT_IS), PLACE + AT_TO);
            due("a cable with a DOUBLE", carried(desk(), DOUBLE_TRACK, 0, INT_TRACK, i, AS_IT_IS), PLACE + AT_TO);
            due("a cable with an INT", carried(desk(), INT_TRACK, 0, INT_TRACK, i, AS_IT_IS), PLACE + AT_TO);
        }
        refused("lay into a track without places", x -> x.lay(NO_PLACES, 0, KNOB), PLACE);
    }

    private static void layOfNoNumberIntoATrack() {
        sentence("LAY into a TRACK: WRONG: it is no number, or one that does not go for the TRACK's KIND");
        refused("lay of a knob", x -> x.lay(INT_TRACK, 2, KNOB), WRONG);
        refused("lay of a fader", x -> x.lay(INT_TRACK, 0, FADER), WRONG);
        refused("row", x -> x.row(INT_TRACK, 0, 1), WRONG);
        due("a cable with a knob", carried(desk(), KNOBS, 0, INT_TRACK, 0, AS_IT_IS), WRONG + AT_TO);
        due("a cable with a row of ints", carried(desk(), INTS, 0, INT_TRACK, 0, AS_IT_IS), WRONG + AT_TO);
        due("a cable with a DOUBLE", carried(desk(), DOUBLE_TRACK, 0, INT_TRACK, 0, AS_IT_IS), WRONG + AT_TO);
        due("a cable with a TRUTH", carried(desk(), TRUTH_TRACK, 0, INT_TRACK, 0, AS_IT_IS), WRONG + AT_TO);
        due("a cable with an INT", carried(desk(), INT_TRACK, 0, DOUBLE_TRACK, 0, AS_IT_IS), 0);
    }

    private static void layHasNoSuchPlaceInOthers() {
        sentence("LAY into others: PLACE, ahead of WRONG: it does not fit");
        for (int i : NO_PLACES_OF_3) {
            refused("lay of nothing", x -> x.lay(KNOBS, i, NONE), PLACE);
            refused("lay of a knob that fits", x -> x.lay(KNOBS, i, KNOB), PLACE);
            refused("lay of a knob that does not", x -> x.lay(INTS, i, KNOB), PLACE);
            refused("row that fits", x -> x.row(INTS, i, 1), PLACE);
            refused("row that does not", x -> x.row(KNOBS, i, 1), PLACE);
            due("a cable with a number", carried(desk(), INT_TRACK, 0, KNOBS, i, AS_IT_IS), PLACE + AT_TO);
            due("a cable with nothing", carried(desk(), KNOBS, 1, INTS, i, AS_IT_IS), PLACE + AT_TO);
        }
        for (int sort = SORT_KNOBS; sort <= SORT_DOUBLES; sort++) {
            CordBoard x = desk();
            x.plug(NOTHING, sort, 0);
            due("lay where no places are", x.lay(NOTHING, 0, NONE), PLACE);
            due("row where no places are", x.row(NOTHING, 0, 0), PLACE);
        }
    }

    /** What may be laid, as sockets and places of desk(), and by sort 8 .. 11 whether it fits. */
    private static final int[][] LAID = {
        {KNOBS, 1}, {INTS, 1}, {KNOBS, 0}, {KNOBS, 2}, {INTS, 0}, {INTS, 2}, {DOUBLES, 0}, {INT_TRACK, 0}, {DOUBLE_TRACK, 0}, {TRUTH_TRACK, 0}};
    private static final String[] LAID_NAMES = {
        "nothing", "nothing of a bank", "a KNOB", "a FADER", "a ROW of ints", "one without places", "a ROW of doubles", "an INT", "a DOUBLE", "a TRUTH"};
    private static final String[] FITS = {"yyyy", "yyyy", "ynnn", "yynn", "nnyn", "nnyn", "nnny", "nnnn", "nnnn", "nnnn"};

    private static void whatFits() {
        for (int n = 0; n < LAID.length; n++) {
            sentence("WRONG: it does not fit (nothing fits each; a KNOB 8; a FADER 8 and 9; a ROW of ints 10; one of doubles 11): " + LAID_NAMES[n]);
            for (int sort = SORT_KNOBS; sort <= SORT_DOUBLES; sort++) {
                boolean fits = FITS[n].charAt(sort - SORT_KNOBS) == 'y';
                CordBoard x = desk();
                x.plug(NOTHING, sort, 1);
                due("a cable into " + sort, carried(x, LAID[n][0], LAID[n][1], NOTHING, 0, AS_IT_IS), fits ? 0 : WRONG + AT_TO);
                due("what stands there", x.what(NOTHING, 0), fits ? x.what(LAID[n][0], LAID[n][1]) : NONE);
            }
        }
    }

    private static void whatFitsByCalls() {
        sentence("nothing fits each: it takes the place of what stood there");
        for (int socket : new int[] {KNOBS, FADERS, INTS, DOUBLES}) {
            CordBoard x = desk();
            due("lay", x.lay(socket, 0, NONE), 0);
            due("what", x.what(socket, 0), NONE);
        }
        sentence("a KNOB 8; a FADER 8 and 9");
        due("a knob among knobs", desk().lay(KNOBS, 1, KNOB), 0);
        due("a fader among knobs", desk().lay(KNOBS, 1, FADER), 0);
        due("a fader among faders", desk().lay(FADERS, 1, FADER), 0);
        refused("a knob among faders", x -> x.lay(FADERS, 0, KNOB), WRONG);
        refused("a knob among rows of ints", x -> x.lay(INTS, 0, KNOB), WRONG);
        refused("a knob among rows of doubles", x -> x.lay(DOUBLES, 0, KNOB), WRONG);
        refused("a fader among rows of ints", x -> x.lay(INTS, 0, FADER), WRONG);
        refused("a fader among rows of doubles", x -> x.lay(DOUBLES, 0, FADER), WRONG);
        sentence("a ROW of ints 10; one of doubles 11");
        due("row among ints", desk().row(INTS, 1, 1), 0);
        due("row among doubles", desk().row(DOUBLES, 1, 1), 0);
        refused("row among knobs", x -> x.row(KNOBS, 0, 1), WRONG);
        refused("row among faders", x -> x.row(FADERS, 0, 1), WRONG);
    }

    public static void main(String[] args) {
        socketsAreTen();
        socketsHoldNothingAtFirst();
        rowsHaveUpToSixteenPlaces();
        tracksAreZeroAtFirst();
        othersHaveNothingInThemAtFirst();
        knobsAreTwentyFour();
        someKnobsAreFaders();
        readIsEmptyFirst();
        readIsWrongOfNoTrack();
        readHasNoSuchPlace();
        readIsWrongByKinds();
        writeIsEmptyFirst();
        writeIsWrongOfNoTrack();
        writeHasNoSuchPlace();
        writeIsWrongByKinds();
        takeIsEmptyFirst();
        takeIsWrongOfAKnob();
        takeHasNoSuchPlace();
        layIsEmptyFirst();
        layIsWrongAtAKnob();
        layOfNothingIntoATrack();
        layHasNoSuchPlaceInATrack();
        layOfNoNumberIntoATrack();
        layHasNoSuchPlaceInOthers();
        whatFits();
        whatFitsByCalls();
        finish();
    }
}
