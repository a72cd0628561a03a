/** A relay desk: sockets that hold rows or a knob, and cables that carry what stands in them, tick by tick. */
public final class CordBoard {
    public static final int NONE = -1, UNKNOWN = -101, OUTSIDE = -102, FULL = -103;

    private static final int TRUTH = 0, BYTE = 1, CHAR = 2, SHORT = 3, INT = 4, LONG = 5, FLOAT = 6, DOUBLE = 7;
    private static final int KNOB_STRIP = 8, FADER_STRIP = 9, INT_BANK = 10, DOUBLE_BANK = 11, NOTHING = 13;

    private static final int FINE = 0, EMPTY = 1, WRONG = 2, PLACE = 3;
    private static final int SIDE_FROM = 0, SIDE_TO = 1;
    private static final int AS_IT_IS = -1;
    private static final int RULE_STEP = 1, RULE_BACK = 2;

    private static final int SOCKETS = 10, MOST_KNOBS = 24, MOST_CABLES = 12, MOST_PLACES = 16;
    private static final int MOST_STEP = 4, MOST_TICKS = 8, MOST_CAUSES = 100;

    private final Thing[] sockets = new Thing[SOCKETS];
    private final Knob[] knobs = new Knob[MOST_KNOBS];
    private final Cable[] cables = new Cable[MOST_CABLES];
    // One parcel serves every call, so that carrying makes no new objects.
    private final Parcel hand = new Parcel();
    private int knobCount;
    private int cableCount;
    private int tickCount;
    private int moveCount;
    private long seenBits;

    public CordBoard() {
    }

    public int plug(int socket, int sort, int n) {
        if (!isSocket(socket)) return UNKNOWN;
        if (sort == NOTHING) {
            sockets[socket] = null;
            return 1;
        }
        if (sort < TRUTH || sort > DOUBLE_BANK || !isWidth(n)) return OUTSIDE;
        sockets[socket] = sort <= DOUBLE ? new Track(sort, n) : new Shelf(sort, n);
        return 1;
    }

    public int knob(int gain, boolean fader) {
        if (knobCount < 0 || knobCount >= knobs.length) return FULL;
        knobs[knobCount] = new Knob(knobCount, gain, fader);
        knobCount++;
        return knobCount - 1;
    }

    public int mount(int socket, int knob) {
        Knob mounted = knobOf(knob);
        if (!isSocket(socket) || mounted == null) return UNKNOWN;
        sockets[socket] = mounted;
        return 1;
    }

    public int share(int socket, int from) {
        if (!isSocket(socket) || !isSocket(from)) return UNKNOWN;
        sockets[socket] = sockets[from];
        return 1;
    }

    public int width(int socket) {
        if (!isSocket(socket)) return UNKNOWN;
        Thing held = sockets[socket];
        if (held == null) return answerOf(EMPTY);
        if (held instanceof Row row) return row.places();
        return answerOf(WRONG);
    }

    public int tap(int socket, int i, int kind) {
        if (!isSocket(socket)) return UNKNOWN;
        if (!isKind(kind)) return OUTSIDE;
        return see(readFrom(sockets[socket], i, kind, hand));
    }

    public long seen() {
        return seenBits;
    }

    public int dial(int socket, int i, int kind, long bits) {
        if (!isSocket(socket)) return UNKNOWN;
        if (!isTaken(kind, bits)) return OUTSIDE;
        hand.holdNumber(kind, cut(kind, bits));
        return answerOf(writeTo(sockets[socket], i, hand));
    }

    public int lay(int socket, int i, int knob) {
        Knob laid = knobOf(knob);
        if (!isSocket(socket) || (laid == null && knob != NONE)) return UNKNOWN;
        hand.holdThing(laid);
        return answerOf(layAt(sockets[socket], i, hand));
    }

    public int row(int socket, int i, int n) {
        if (!isSocket(socket)) return UNKNOWN;
        if (!isWidth(n)) return OUTSIDE;
        Thing held = sockets[socket];
        boolean doubles = held instanceof Shelf shelf && shelf.sort == DOUBLE_BANK;
        hand.holdThing(new Track(doubles ? DOUBLE : INT, n));
        return answerOf(layAt(held, i, hand));
    }

    public int what(int socket, int i) {
        if (!isSocket(socket)) return UNKNOWN;
        int cause = takeFrom(sockets[socket], i, hand);
        return cause == FINE ? nameOf(hand) : answerOf(cause);
    }

    public int inner(int socket, int i, int j, int kind) {
        if (!isSocket(socket)) return UNKNOWN;
        if (!isKind(kind)) return OUTSIDE;
        int cause = takeFrom(sockets[socket], i, hand);
        if (cause == FINE) cause = hand.isNumber() ? WRONG : readFrom(hand.thing, j, kind, hand);
        return see(cause);
    }

    public int enter(int socket, int i, int j, int kind, long bits) {
        if (!isSocket(socket)) return UNKNOWN;
        if (!isTaken(kind, bits)) return OUTSIDE;
        int cause = takeFrom(sockets[socket], i, hand);
        if (cause != FINE) return answerOf(cause);
        if (hand.isNumber()) return answerOf(WRONG);
        Thing stands = hand.thing;
        hand.holdNumber(kind, cut(kind, bits));
        return answerOf(writeTo(stands, j, hand));
    }

    public int cable(int from, int i, int s, int to, int k, int t, int way, int rule) {
        if (!isSocket(from) || !isSocket(to)) return UNKNOWN;
        if (!isStep(s) || !isStep(t)) return OUTSIDE;
        if (way != AS_IT_IS && !isKind(way)) return OUTSIDE;
        if (rule < 0 || rule > RULE_BACK) return OUTSIDE;
        if (cableCount < 0 || cableCount >= cables.length) return FULL;
        cables[cableCount] = new Cable(new End(from, i, s), new End(to, k, t), way, rule);
        cableCount++;
        return cableCount - 1;
    }

    public int in(int cable) {
        Cable named = cableOf(cable);
        if (named == null) return UNKNOWN;
        int changed = named.isIn ? 0 : 1;
        named.isIn = true;
        named.goBack();
        return changed;
    }

    public int out(int cable) {
        Cable named = cableOf(cable);
        if (named == null) return UNKNOWN;
        int changed = named.isIn ? 1 : 0;
        named.isIn = false;
        return changed;
    }

    public int tick(int n) {
        if (n < 0 || n > MOST_TICKS) return OUTSIDE;
        int before = moveCount;
        for (int done = 0; done < n; done++) {
            tickCount++;
            for (int number = 0; number < cableCount; number++) {
                Cable cable = cableOf(number);
                if (cable != null && cable.isIn) carry(cable);
            }
        }
        return moveCount - before;
    }

    public int told(int cable, int what) {
        Cable named = cableOf(cable);
        if (named == null) return UNKNOWN;
        switch (what) {
            case 0: return named.isIn ? 1 : 0;
            case 1: return named.from.place;
            case 2: return named.to.place;
            case 3: return named.moves;
            case 4: return named.cause;
            case 5: return named.side;
            case 6: return named.causes;
            default: return OUTSIDE;
        }
    }

    public int level(int socket) {
        if (!isSocket(socket)) return UNKNOWN;
        Thing held = sockets[socket];
        if (held == null) return answerOf(EMPTY);
        if (held instanceof Row row && row.places() == 0) {
            seenBits = 0;
            return 0;
        }
        if (held instanceof Track track && goesFor(track.kind, LONG)) {
            seenBits = track.sum();
            return 0;
        }
        return answerOf(WRONG);
    }

    public int gain(int knob) {
        Knob named = knobOf(knob);
        return named == null ? 0 : named.gain;
    }

    public int about(int what) {
        switch (what) {
            case 0: return knobCount;
            case 1: return cableCount;
            case 2: return countIn();
            case 3: return tickCount;
            case 4: return moveCount;
            default: return OUTSIDE;
        }
    }

    // ---- names and bounds

    private boolean isSocket(int socket) {
        return socket >= 0 && socket < sockets.length;
    }

    private Thing heldBy(int socket) {
        return isSocket(socket) ? sockets[socket] : null;
    }

    private Knob knobOf(int number) {
        return number >= 0 && number < knobs.length ? knobs[number] : null;
    }

    private Cable cableOf(int number) {
        return number >= 0 && number < cables.length ? cables[number] : null;
    }

    private static boolean isWidth(int n) {
        return n >= 0 && n <= MOST_PLACES;
    }

    private static boolean isStep(int step) {
        return step >= -MOST_STEP && step <= MOST_STEP;
    }

    private static boolean isKind(int kind) {
        return kind >= TRUTH && kind <= DOUBLE;
    }

    private static int answerOf(int cause) {
        return cause == FINE ? 0 : -10 - cause;
    }

    private static int nameOf(Parcel parcel) {
        if (parcel.isNumber()) return 200 + parcel.kind;
        if (parcel.thing instanceof Knob knob) return knob.number;
        if (parcel.thing instanceof Row row) return 100 + row.places();
        return NONE;
    }

    /** Answers for a reading into the hand; only one that met no cause is seen. */
    private int see(int cause) {
        if (cause == FINE) seenBits = hand.bits;
        return answerOf(cause);
    }

    // ---- ticks

    private void carry(Cable cable) {
        int cause = pickUp(cable.from, cable.way);
        if (cause != FINE) {
            cable.stop(cause, SIDE_FROM);
            return;
        }
        cause = setDown(cable.to, cable.way);
        if (cause != FINE) {
            cable.stop(cause, SIDE_TO);
            return;
        }
        cable.moves++;
        cable.stepOn();
        moveCount++;
    }

    private int pickUp(End end, int way) {
        Thing held = heldBy(end.socket);
        return way == AS_IT_IS ? takeFrom(held, end.place, hand) : readFrom(held, end.place, way, hand);
    }

    private int setDown(End end, int way) {
        Thing held = heldBy(end.socket);
        return way == AS_IT_IS ? layAt(held, end.place, hand) : writeTo(held, end.place, hand);
    }

    private int countIn() {
        int count = 0;
        for (int number = 0; number < cableCount; number++) {
            Cable cable = cableOf(number);
            if (cable != null && cable.isIn) count++;
        }
        return count;
    }

    // ---- READ, WRITE, TAKE, LAY: each answers a cause, or FINE; the order of the tests is the document's

    private static int readFrom(Thing held, int place, int kind, Parcel parcel) {
        if (held == null) return EMPTY;
        if (!(held instanceof Track track)) return WRONG;
        if (!track.has(place)) return PLACE;
        if (!goesFor(track.kind, kind)) return WRONG;
        parcel.holdNumber(kind, widen(track.kind, kind, track.bits[place]));
        return FINE;
    }

    private static int writeTo(Thing held, int place, Parcel parcel) {
        if (held == null) return EMPTY;
        if (!(held instanceof Track track)) return WRONG;
        return putNumber(track, place, parcel);
    }

    private static int takeFrom(Thing held, int place, Parcel parcel) {
        if (held == null) return EMPTY;
        if (!(held instanceof Row row)) return WRONG;
        if (!row.has(place)) return PLACE;
        row.showPlace(place, parcel);
        return FINE;
    }

    private static int layAt(Thing held, int place, Parcel parcel) {
        if (held == null) return EMPTY;
        if (held instanceof Track track) return parcel.isNothing() ? WRONG : putNumber(track, place, parcel);
        if (!(held instanceof Shelf shelf)) return WRONG;
        if (!shelf.has(place)) return PLACE;
        if (parcel.isNumber() || !shelf.fits(parcel.thing)) return WRONG;
        shelf.things[place] = parcel.thing;
        return FINE;
    }

    private static int putNumber(Track track, int place, Parcel parcel) {
        if (!track.has(place)) return PLACE;
        if (!parcel.isNumber() || !goesFor(parcel.kind, track.kind)) return WRONG;
        track.bits[place] = widen(parcel.kind, track.kind, parcel.bits);
        return FINE;
    }

    // ---- kinds of numbers; whole arithmetic alone, as no float or double is ever made

    private static boolean goesFor(int kind, int other) {
        if (kind == other) return true;
        if (kind == TRUTH || other == CHAR) return false;
        if (kind == CHAR && other == SHORT) return false;
        return kind < other;
    }

    /** Whether bits given as of a kind are a number of it: there is such a kind, and they are no NaN. */
    private static boolean isTaken(int kind, long bits) {
        if (!isKind(kind)) return false;
        if (kind == FLOAT) return ((int) bits & 0x7fffffff) <= 0x7f800000;
        if (kind == DOUBLE) return (bits & 0x7fffffffffffffffL) <= 0x7ff0000000000000L;
        return true;
    }

    private static long cut(int kind, long bits) {
        switch (kind) {
            case TRUTH: return bits & 1L;
            case BYTE: return (byte) bits;
            case CHAR: return (char) bits;
            case SHORT: return (short) bits;
            case INT: return (int) bits;
            case FLOAT: return (int) bits;
            default: return bits;
        }
    }

    /** Bits of a number of a kind as those of another kind that it goes for. */
    private static long widen(int kind, int other, long bits) {
        if (kind == other || other < FLOAT) return bits;
        if (kind == FLOAT) return doubleOfFloat((int) bits);
        if (other == FLOAT) return (int) ieeeOfWhole(bits, 23, 127, 31);
        return ieeeOfWhole(bits, 52, 1023, 63);
    }

    /** IEEE bits of a whole number, rounded to the nearest and of two as near to the even one. */
    private static long ieeeOfWhole(long whole, int fractionBits, int bias, int signBit) {
        if (whole == 0) return 0;
        long sign = whole < 0 ? 1L << signBit : 0L;
        // The least long stays as it is here, and is right when its bits are taken without a sign.
        long size = whole < 0 ? -whole : whole;
        int top = 63 - Long.numberOfLeadingZeros(size);
        // The leading one, and a carry of the rounding, count up the exponent by being added to it.
        long exponent = (long) (top + bias - 1) << fractionBits;
        int cutBits = top - fractionBits;
        if (cutBits <= 0) return sign | exponent + (size << -cutBits);
        long lead = size >>> cutBits;
        long rest = size & ((1L << cutBits) - 1);
        long half = 1L << (cutBits - 1);
        boolean up = rest > half || rest == half && (lead & 1L) == 1L;
        return sign | exponent + (up ? lead + 1 : lead);
    }

    private static long doubleOfFloat(int bits) {
        long sign = bits < 0 ? 1L << 63 : 0L;
        long exponent = (bits >>> 23) & 0xff;
        long fraction = bits & 0x7fffff;
        // No NaN is ever taken, so this is an infinity.
        if (exponent == 0xff) return sign | 0x7ffL << 52;
        if (exponent != 0) return sign | (exponent + 1023 - 127) << 52 | fraction << 29;
        if (fraction == 0) return sign;
        // A float too small for a leading one has it as a double: the fraction counts steps of 2 to the -149.
        int top = 63 - Long.numberOfLeadingZeros(fraction);
        long behind = fraction - (1L << top);
        return sign | (long) (top - 149 + 1023) << 52 | behind << (52 - top);
    }

    // ---- what sockets hold

    /** What a socket, or a place of a strip or bank, can hold. */
    private abstract static class Thing {
    }

    private static final class Knob extends Thing {
        final int number;
        final int gain;
        final boolean isFader;

        Knob(int number, int gain, boolean isFader) {
            this.number = number;
            this.gain = gain;
            this.isFader = isFader;
        }
    }

    private abstract static class Row extends Thing {
        abstract int places();

        /** Puts what stands at a place into the parcel; a place that is not there shows nothing. */
        abstract void showPlace(int place, Parcel parcel);

        final boolean has(int place) {
            return place >= 0 && place < places();
        }
    }

    /** Numbers of one kind, in a socket or as a row of a bank. */
    private static final class Track extends Row {
        final int kind;
        final long[] bits;

        Track(int kind, int places) {
            this.kind = kind;
            this.bits = new long[isWidth(places) ? places : 0];
        }

        int places() {
            return bits.length;
        }

        void showPlace(int place, Parcel parcel) {
            if (has(place)) parcel.holdNumber(kind, bits[place]);
            else parcel.holdThing(null);
        }

        long sum() {
            long sum = 0;
            for (int place = 0; place < bits.length; place++) {
                sum += bits[place];
            }
            return sum;
        }
    }

    /** A strip of knobs or faders, or a bank of rows. */
    private static final class Shelf extends Row {
        final int sort;
        final Thing[] things;

        Shelf(int sort, int places) {
            this.sort = sort;
            this.things = new Thing[isWidth(places) ? places : 0];
        }

        int places() {
            return things.length;
        }

        void showPlace(int place, Parcel parcel) {
            parcel.holdThing(has(place) ? things[place] : null);
        }

        boolean fits(Thing thing) {
            if (thing == null) return true;
            if (thing instanceof Knob knob) return sort == KNOB_STRIP || sort == FADER_STRIP && knob.isFader;
            if (!(thing instanceof Track track)) return false;
            return sort == INT_BANK && track.kind == INT || sort == DOUBLE_BANK && track.kind == DOUBLE;
        }
    }

    // ---- what moves

    /** What is carried: a number of a kind, or a thing, or nothing. */
    private static final class Parcel {
        int kind = NONE;
        long bits;
        Thing thing;

        void holdNumber(int newKind, long newBits) {
            kind = newKind;
            bits = newBits;
            thing = null;
        }

        void holdThing(Thing newThing) {
            kind = NONE;
            bits = 0;
            thing = newThing;
        }

        boolean isNumber() {
            return kind != NONE;
        }

        boolean isNothing() {
            return kind == NONE && thing == null;
        }
    }

    private static final class End {
        final int socket;
        final int start;
        final int step;
        int place;

        End(int socket, int start, int step) {
            this.socket = socket;
            this.start = start;
            this.step = step;
            this.place = start;
        }
    }

    private static final class Cable {
        final End from;
        final End to;
        final int way;
        final int rule;
        boolean isIn = true;
        int moves;
        int cause = FINE;
        int side = NONE;
        int causes;

        Cable(End from, End to, int way, int rule) {
            this.from = from;
            this.to = to;
            this.way = way;
            this.rule = rule;
        }

        void stepOn() {
            from.place += from.step;
            to.place += to.step;
        }

        void goBack() {
            from.place = from.start;
            to.place = to.start;
        }

        void stop(int newCause, int newSide) {
            cause = newCause;
            side = newSide;
            causes++;
            if (causes >= MOST_CAUSES) isIn = false;
            else if (rule == RULE_STEP) stepOn();
            else if (rule == RULE_BACK) goBack();
            else isIn = false;
        }
    }
}
