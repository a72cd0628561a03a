import java.util.function.ToLongFunction;

/** Refusals, their order, and that they change nothing: for each call of the face that can be refused. */
public final class RefusalEdgesTest extends Due {
    /** A call that is given a number of a socket, a kind or the like. */
    private interface Given {
        long call(CordBoard x, int number);
    }

    private static void refusedFor(String call, int[] numbers, Given given, int want) {
        for (int number : numbers) {
            ToLongFunction<CordBoard> work = x -> given.call(x, number);
            refused(call + " with " + number, work, want);
        }
    }

    private static final int[] NO_KNOBS = {-1, 2, 23, 24, MIN, MAX};
    private static final int[] NO_KNOBS_NOR_NONE = {-2, 2, 23, 24, MIN, MAX};
    private static final int[] NO_CABLES = {-1, 2, 11, 12, MIN, MAX};
    private static final int[] NO_WIDTHS = {-1, 17, MIN, MAX};

    private static void unknownSockets() {
        sentence("UNKNOWN (a number names nothing): a SOCKET");
        refusedFor("plug", NO_SOCKETS, (x, n) -> x.plug(n, INT, 1), UNKNOWN);
        refusedFor("plug of nothing", NO_SOCKETS, (x, n) -> x.plug(n, SORT_NOTHING, 0), UNKNOWN);
        refusedFor("mount", NO_SOCKETS, (x, n) -> x.mount(n, KNOB), UNKNOWN);
        refusedFor("share to", NO_SOCKETS, (x, n) -> x.share(n, INT_TRACK), UNKNOWN);
        refusedFor("share from", NO_SOCKETS, (x, n) -> x.share(INT_TRACK, n), UNKNOWN);
        refusedFor("width", NO_SOCKETS, (x, n) -> x.width(n), UNKNOWN);
        refusedFor("tap", NO_SOCKETS, (x, n) -> x.tap(n, 0, INT), UNKNOWN);
        refusedFor("dial", NO_SOCKETS, (x, n) -> x.dial(n, 0, INT, 1), UNKNOWN);
        refusedFor("lay", NO_SOCKETS, (x, n) -> x.lay(n, 0, KNOB), UNKNOWN);
        refusedFor("lay of nothing", NO_SOCKETS, (x, n) -> x.lay(n, 0, NONE), UNKNOWN);
        refusedFor("row", NO_SOCKETS, (x, n) -> x.row(n, 0, 1), UNKNOWN);
        refusedFor("what", NO_SOCKETS, (x, n) -> x.what(n, 0), UNKNOWN);
        refusedFor("inner", NO_SOCKETS, (x, n) -> x.inner(n, 0, 0, INT), UNKNOWN);
        refusedFor("enter", NO_SOCKETS, (x, n) -> x.enter(n, 0, 0, INT, 1), UNKNOWN);
        refusedFor("cable from", NO_SOCKETS, (x, n) -> x.cable(n, 0, 0, 0, 0, 0, INT, 0), UNKNOWN);
        refusedFor("cable to", NO_SOCKETS, (x, n) -> x.cable(0, 0, 0, n, 0, 0, INT, 0), UNKNOWN);
        refusedFor("level", NO_SOCKETS, (x, n) -> x.level(n), UNKNOWN);
    }

    private static void unknownKnobs() {
        sentence("UNKNOWN (a number names nothing): a KNOB");
        refusedFor("mount", NO_KNOBS, (x, n) -> x.mount(KNOBS, n), UNKNOWN);
        refusedFor("lay", NO_KNOBS_NOR_NONE, (x, n) -> x.lay(KNOBS, 0, n), UNKNOWN);
        due("mount of the first, there being none", new CordBoard().mount(0, 0), UNKNOWN);
        due("lay of the first, there being none", new CordBoard().lay(0, 0, 0), UNKNOWN);
    }

    private static void unknownCables() {
        sentence("UNKNOWN (a number names nothing): a CABLE");
        refusedFor("in", NO_CABLES, (x, n) -> x.in(n), UNKNOWN);
        refusedFor("out", NO_CABLES, (x, n) -> x.out(n), UNKNOWN);
        refusedFor("told", NO_CABLES, (x, n) -> x.told(n, IN), UNKNOWN);
        due("told of the first, there being none", new CordBoard().told(0, IN), UNKNOWN);
        due("in of the first, there being none", new CordBoard().in(0), UNKNOWN);
        due("out of the first, there being none", new CordBoard().out(0), UNKNOWN);
    }

    private static void outsideKinds() {
        sentence("OUTSIDE (not as told): kind");
        refusedFor("tap", NO_KINDS, (x, n) -> x.tap(INT_TRACK, 0, n), OUTSIDE);
        refusedFor("dial", NO_KINDS, (x, n) -> x.dial(INT_TRACK, 0, n, 1), OUTSIDE);
        refusedFor("inner", NO_KINDS, (x, n) -> x.inner(INTS, 0, 0, n), OUTSIDE);
        refusedFor("enter", NO_KINDS, (x, n) -> x.enter(INTS, 0, 0, n, 1), OUTSIDE);
    }

    private static void outsideOthers() {
        sentence("OUTSIDE (not as told): sort");
        refusedFor("plug", new int[] {-1, 12, 14, MIN, MAX}, (x, n) -> x.plug(INT_TRACK, n, 1), OUTSIDE);
        sentence("OUTSIDE (not as told): n places");
        for (int sort = TRUTH; sort <= SORT_DOUBLES; sort++) {
            int now = sort;
            refusedFor("plug of " + sort, NO_WIDTHS, (x, n) -> x.plug(INT_TRACK, now, n), OUTSIDE);
        }
        refusedFor("row of ints", NO_WIDTHS, (x, n) -> x.row(INTS, 0, n), OUTSIDE);
        refusedFor("row of doubles", NO_WIDTHS, (x, n) -> x.row(DOUBLES, 0, n), OUTSIDE);
        sentence("OUTSIDE: n is not 0 .. 8");
        refusedFor("tick", new int[] {-1, 9, MIN, MAX}, (x, n) -> x.tick(n), OUTSIDE);
        sentence("OUTSIDE (not as told): what");
        refusedFor("told", new int[] {-1, 7, MIN, MAX}, (x, n) -> x.told(0, n), OUTSIDE);
        refusedFor("about", new int[] {-1, 5, MIN, MAX}, (x, n) -> x.about(n), OUTSIDE);
    }

    private static final long NO_NUMBER = -1;

    private static void unknownIsFirst() {
        sentence("of several the one told first: UNKNOWN ahead of OUTSIDE");
        refused("plug: sort", x -> x.plug(10, 12, 1), UNKNOWN);
        refused("plug: n", x -> x.plug(-1, INT, 17), UNKNOWN);
        refused("tap", x -> x.tap(10, 0, 8), UNKNOWN);
        refused("dial: kind", x -> x.dial(10, 0, 8, 1), UNKNOWN);
        refused("dial: no number", x -> x.dial(10, 0, DOUBLE, NO_NUMBER), UNKNOWN);
        refused("row", x -> x.row(10, 0, 17), UNKNOWN);
        refused("inner", x -> x.inner(10, 0, 0, 8), UNKNOWN);
        refused("enter: kind", x -> x.enter(10, 0, 0, 8, 1), UNKNOWN);
        refused("enter: no number", x -> x.enter(10, 0, 0, DOUBLE, NO_NUMBER), UNKNOWN);
        refused("cable: from and a step", x -> x.cable(10, 0, 5, 0, 0, 0, INT, 0), UNKNOWN);
        refused("cable: to and a step", x -> x.cable(0, 0, 5, 10, 0, 0, INT, 0), UNKNOWN);
        refused("cable: to and a way", x -> x.cable(0, 0, 0, 10, 0, 0, 8, 0), UNKNOWN);
        refused("cable: to and a rule", x -> x.cable(0, 0, 0, 10, 0, 0, INT, 3), UNKNOWN);
        refused("told", x -> x.told(2, 7), UNKNOWN);
    }

    private static void fullIsLast() {
        sentence("of several the one told first: UNKNOWN and OUTSIDE ahead of FULL");
        CordBoard x = desk();
        for (int n = 0; n < 12; n++) x.cable(0, 0, 0, 0, 0, 0, INT, 0);
        due("cable from 10", x.cable(10, 0, 0, 0, 0, 0, INT, 0), UNKNOWN);
        due("cable to 10", x.cable(0, 0, 0, 10, 0, 0, INT, 0), UNKNOWN);
        due("cable with a step 5 from", x.cable(0, 0, 5, 0, 0, 0, INT, 0), OUTSIDE);
        due("cable with a step 5 to", x.cable(0, 0, 0, 0, 0, 5, INT, 0), OUTSIDE);
        due("cable with a way 8", x.cable(0, 0, 0, 0, 0, 0, 8, 0), OUTSIDE);
        due("cable with a rule 3", x.cable(0, 0, 0, 0, 0, 0, INT, 3), OUTSIDE);
        due("a good cable", x.cable(0, 0, 0, 0, 0, 0, INT, 0), FULL);
        due("about", x.about(1), 12);
    }

    private static void fullChangesNothing() {
        sentence("What is refused changes nothing: FULL");
        CordBoard x = new CordBoard();
        for (int n = 0; n < 24; n++) x.knob(n, false);
        for (int n = 0; n < 12; n++) x.cable(0, n, 0, 0, 0, 0, INT, 0);
        for (int n = 0; n < 3; n++) {
            due("knob", x.knob(99, true), FULL);
            due("cable", x.cable(5, 99, 1, 5, 99, 1, LONG, 2), FULL);
        }
        for (int n = 0; n < 24; n++) due("gain", x.gain(n), n);
        for (int n = 0; n < 12; n++) due("told", x.told(n, FROM), n);
        due("about knobs", x.about(0), 24);
        due("about cables", x.about(1), 12);
        due("about those in", x.about(2), 12);
        x.plug(0, SORT_FADERS, 1);
        due("lay of the last, no fader", x.lay(0, 0, 23), WRONG);
    }

    private static void refusalsAreAheadOfCauses() {
        sentence("Refusals come ahead of CAUSES: EMPTY");
        refused("tap", x -> x.tap(NOTHING, 0, 8), OUTSIDE);
        refused("dial: kind", x -> x.dial(NOTHING, 0, 8, 1), OUTSIDE);
        refused("dial: no number", x -> x.dial(NOTHING, 0, DOUBLE, NO_NUMBER), OUTSIDE);
        refused("lay", x -> x.lay(NOTHING, 0, 2), UNKNOWN);
        refused("row", x -> x.row(NOTHING, 0, 17), OUTSIDE);
        refused("inner", x -> x.inner(NOTHING, 0, 0, 8), OUTSIDE);
        refused("enter: kind", x -> x.enter(NOTHING, 0, 0, 8, 1), OUTSIDE);
        refused("enter: no number", x -> x.enter(NOTHING, 0, 0, FLOAT, NO_NUMBER), OUTSIDE);
        sentence("Refusals come ahead of CAUSES: WRONG");
        refused("tap", x -> x.tap(KNOB_ITSELF, 0, 8), OUTSIDE);
        refused("dial: no number", x -> x.dial(INT_TRACK, 0, FLOAT, NO_NUMBER), OUTSIDE);
        refused("lay", x -> x.lay(KNOB_ITSELF, 0, 2), UNKNOWN);
        refused("row", x -> x.row(KNOB_ITSELF, 0, -1), OUTSIDE);
        refused("inner", x -> x.inner(INT_TRACK, 0, 0, -1), OUTSIDE);
        refused("enter: no number", x -> x.enter(KNOBS, 0, 0, DOUBLE, NO_NUMBER), OUTSIDE);
        sentence("Refusals come ahead of CAUSES: PLACE");
        refused("tap", x -> x.tap(INT_TRACK, 3, 8), OUTSIDE);
        refused("dial: no number", x -> x.dial(DOUBLE_TRACK, 9, DOUBLE, NO_NUMBER), OUTSIDE);
        refused("lay", x -> x.lay(KNOBS, 3, 2), UNKNOWN);
        refused("row", x -> x.row(INTS, 3, 17), OUTSIDE);
        refused("inner: i", x -> x.inner(INTS, 3, 0, 8), OUTSIDE);
        refused("inner: j", x -> x.inner(INTS, 0, 2, 8), OUTSIDE);
        refused("enter: i", x -> x.enter(DOUBLES, 9, 0, DOUBLE, NO_NUMBER), OUTSIDE);
        refused("enter: j", x -> x.enter(DOUBLES, 0, 9, DOUBLE, NO_NUMBER), OUTSIDE);
    }

    private static void answersOfCauses() {
        sentence("Answers of CAUSES are -10 less them");
        due("EMPTY", desk().width(NOTHING), -11);
        due("WRONG", desk().width(KNOB_ITSELF), -12);
        due("PLACE", desk().what(INT_TRACK, 3), -13);
        sentence("1 EMPTY (nothing is there), 2 WRONG, 3 PLACE (no such one)");
        CordBoard x = desk();
        x.cable(NOTHING, 0, 0, INT_TRACK, 0, 0, INT, 0);
        x.cable(KNOB_ITSELF, 0, 0, INT_TRACK, 0, 0, INT, 0);
        x.cable(INT_TRACK, 3, 0, INT_TRACK, 0, 0, INT, 0);
        x.tick(1);
        for (int cable = 0; cable < 3; cable++) due("told", x.told(cable, CAUSE), cable + 1);
        sentence("NONE = -1, UNKNOWN = -101, OUTSIDE = -102, FULL = -103");
        due("NONE", CordBoard.NONE, -1);
        due("UNKNOWN", CordBoard.UNKNOWN, -101);
        due("OUTSIDE", CordBoard.OUTSIDE, -102);
        due("FULL", CordBoard.FULL, -103);
    }

    public static void main(String[] args) {
        unknownSockets();
        unknownKnobs();
        unknownCables();
        outsideKinds();
        outsideOthers();
        unknownIsFirst();
        fullIsLast();
        fullChangesNothing();
        refusalsAreAheadOfCauses();
        answersOfCauses();
        finish();
    }
}
