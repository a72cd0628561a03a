import java.util.function.ToLongFunction;

/** What the tests of the document's sentences share: the count of wrong answers, a desk, and a look at all of it. */
abstract class Due {
    static final int NONE = CordBoard.NONE, UNKNOWN = CordBoard.UNKNOWN, OUTSIDE = CordBoard.OUTSIDE, FULL = CordBoard.FULL;
    static final int EMPTY = -11, WRONG = -12, PLACE = -13;
    static final int TRUTH = 0, BYTE = 1, CHAR = 2, SHORT = 3, INT = 4, LONG = 5, FLOAT = 6, DOUBLE = 7;
    static final int SORT_KNOBS = 8, SORT_FADERS = 9, SORT_INTS = 10, SORT_DOUBLES = 11, SORT_NOTHING = 13;
    static final int AS_IT_IS = -1;
    static final int IN = 0, FROM = 1, TO = 2, MOVED = 3, CAUSE = 4, SIDE = 5, CAUSES = 6;
    static final int MIN = Integer.MIN_VALUE, MAX = Integer.MAX_VALUE;

    /** The sockets of desk(), and its two knobs. */
    static final int INT_TRACK = 0, DOUBLE_TRACK = 1, TRUTH_TRACK = 2, NO_PLACES = 3, KNOBS = 4, FADERS = 5,
        INTS = 6, DOUBLES = 7, KNOB_ITSELF = 8, NOTHING = 9;
    static final int KNOB = 0, FADER = 1;

    /** Numbers that name no socket, and ones that are no kind. */
    static final int[] NO_SOCKETS = {-1, 10, MIN, MAX};
    static final int[] NO_KINDS = {-1, 8, MIN, MAX};

    /** What carried() answers where the end TO meets a cause: that much below the answer of the same cause FROM. */
    static final int AT_TO = -100;

    private static String sentence = "";
    private static int sentences = 0;
    private static int wrong = 0;

    static void sentence(String words) {
        sentence = words;
        sentences++;
    }

    static void due(String call, long got, long want) {
        if (got == want) return;
        wrong++;
        System.out.println("\"" + sentence + "\": " + call + " answered " + got + ", due is " + want);
    }

    static void finish() {
        System.out.println(wrong == 0 ? sentences + " sentences hold" : wrong + " answers are not as due");
        if (wrong != 0) System.exit(1);
    }

    static CordBoard desk() {
        CordBoard x = new CordBoard();
        x.knob(5, false);
        x.knob(-7, true);
        x.plug(INT_TRACK, INT, 3);
        x.plug(DOUBLE_TRACK, DOUBLE, 2);
        x.plug(TRUTH_TRACK, TRUTH, 2);
        x.plug(NO_PLACES, LONG, 0);
        x.plug(KNOBS, SORT_KNOBS, 3);
        x.plug(FADERS, SORT_FADERS, 2);
        x.plug(INTS, SORT_INTS, 3);
        x.plug(DOUBLES, SORT_DOUBLES, 2);
        x.mount(KNOB_ITSELF, KNOB);
        for (int i = 0; i < 3; i++) x.dial(INT_TRACK, i, INT, 11 + i);
        x.dial(DOUBLE_TRACK, 0, DOUBLE, Double.doubleToLongBits(1.5));
        x.dial(TRUTH_TRACK, 1, TRUTH, 1);
        x.lay(KNOBS, 0, KNOB);
        x.lay(KNOBS, 2, FADER);
        x.lay(FADERS, 0, FADER);
        x.row(INTS, 0, 2);
        x.enter(INTS, 0, 1, INT, 32);
        x.row(INTS, 2, 0);
        x.row(DOUBLES, 0, 1);
        x.enter(DOUBLES, 0, 0, DOUBLE, Double.doubleToLongBits(0.25));
        return x;
    }

    /** desk() with a cable that has moved and is in, one that met a cause and is out, and something seen. */
    static CordBoard workedDesk() {
        CordBoard x = desk();
        x.cable(INT_TRACK, 0, 1, INT_TRACK, 1, 1, INT, 1);
        x.cable(NOTHING, 5, 1, DOUBLE_TRACK, 0, 1, AS_IT_IS, 0);
        x.tick(1);
        x.tap(INT_TRACK, 2, INT);
        return x;
    }

    /** All that calls tell of a desk; it looks at what is seen first, as looking at places changes that. */
    static String stateOf(CordBoard x) {
        StringBuilder state = new StringBuilder().append(x.seen());
        for (int what = 0; what <= 4; what++) note(state, x.about(what));
        for (int knob = 0; knob <= 2; knob++) note(state, x.gain(knob));
        for (int cable = 0; cable <= 2; cable++) {
            for (int what = IN; what <= CAUSES; what++) note(state, x.told(cable, what));
        }
        return state.append(heldBy(x)).toString();
    }

    /** What stands in all sockets; looking at it changes what is seen. */
    static String heldBy(CordBoard x) {
        StringBuilder state = new StringBuilder();
        for (int socket = 0; socket <= 9; socket++) {
            note(state, x.width(socket));
            for (int i = 0; i < x.width(socket); i++) notePlace(state, x, socket, i);
        }
        return state.toString();
    }

    private static void notePlace(StringBuilder state, CordBoard x, int socket, int i) {
        int what = x.what(socket, i);
        note(state, what);
        if (what >= 200) {
            x.tap(socket, i, what - 200);
            note(state, x.seen());
        }
        for (int j = 0; what >= 100 && j < what - 100 && what < 200; j++) {
            x.inner(socket, i, j, DOUBLE);
            note(state, x.seen());
        }
    }

    private static void note(StringBuilder state, long answer) {
        state.append(' ').append(answer);
    }

    /** A call on workedDesk() that is refused or has a cause: its answer, and that all is as it was. */
    static void refused(String call, ToLongFunction<CordBoard> work, int want) {
        CordBoard x = workedDesk();
        due(call, work.applyAsLong(x), want);
        String is = stateOf(x);
        String was = stateOf(workedDesk());
        if (is.equals(was)) return;
        due(call + " changes something (" + was + " became " + is + "); it", 1, 0);
    }

    /** What one tick of a new cable makes of it: 0 if it moved, else the answer of its cause, AT_TO less on that side. */
    static int carried(CordBoard x, int from, int i, int to, int k, int way) {
        int cable = x.cable(from, i, 0, to, k, 0, way, 0);
        int moved = x.tick(1);
        x.out(cable);
        if (moved == 1) return 0;
        return -10 - x.told(cable, CAUSE) + (x.told(cable, SIDE) == 1 ? AT_TO : 0);
    }
}
