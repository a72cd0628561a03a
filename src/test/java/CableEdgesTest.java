/** CABLES and TICKS: a test for each sentence of the document's third part that names an edge. */
public final class CableEdgesTest extends Due {
    private static void toldAll(String call, CordBoard x, int cable, int... want) {
        String[] names = {"IN", "the place FROM", "the place TO", "MOVED", "CAUSE", "its side", "CAUSES"};
        for (int what = IN; what <= CAUSES; what++) due(call + ": " + names[what], x.told(cable, what), want[what]);
    }

    private static void ticks(CordBoard x, int n) {
        for (int rest = n; rest > 0; rest -= 8) x.tick(Math.min(rest, 8));
    }

    // ---- what a cable may be

    private static void cablesAreTwelve() {
        sentence("CABLES, 12 at most, numbered as they come");
        CordBoard x = desk();
        for (int n = 0; n < 12; n++) {
            due("told of the next", x.told(n, IN), UNKNOWN);
            due("a refused one", x.cable(0, 0, 5, 0, 0, 0, INT, 0), OUTSIDE);
            due("cable", x.cable(INT_TRACK, 0, 0, INT_TRACK, 1, 0, INT, 0), n);
        }
        due("the 13th", x.cable(INT_TRACK, 0, 0, INT_TRACK, 1, 0, INT, 0), FULL);
        due("told of the 13th", x.told(12, IN), UNKNOWN);
        due("about", x.about(1), 12);
        x.out(3);
        due("the 13th, one being out", x.cable(INT_TRACK, 0, 0, INT_TRACK, 1, 0, INT, 0), FULL);
        due("a tick of the eleven that are in", x.tick(1), 11);
        x.in(3);
        due("eight ticks of twelve", x.tick(8), 96);
    }

    private static void stepsAreFourAtMost() {
        sentence("a step of -4 .. 4 each");
        for (int step = -4; step <= 4; step++) {
            CordBoard x = desk();
            due("from with " + step, x.cable(0, 0, step, 0, 0, 0, INT, 0), 0);
            due("to with " + step, x.cable(0, 0, 0, 0, 0, step, INT, 0), 1);
        }
        for (int step : new int[] {-5, 5, MIN, MAX}) {
            refused("from with " + step, x -> x.cable(0, 0, step, 0, 0, 0, INT, 0), OUTSIDE);
            refused("to with " + step, x -> x.cable(0, 0, 0, 0, 0, step, INT, 0), OUTSIDE);
        }
    }

    private static void waysAreNine() {
        sentence("a WAY (-1: as it is: TAKE, LAY; 0 .. 7: READ, WRITE as of that KIND)");
        CordBoard x = desk();
        for (int way = -1; way <= 7; way++) due("way " + way, x.cable(0, 0, 0, 0, 0, 0, way, 0), way + 1);
        for (int way : new int[] {-2, 8, MIN, MAX}) refused("way " + way, y -> y.cable(0, 0, 0, 0, 0, 0, way, 0), OUTSIDE);
    }

    private static void rulesAreThree() {
        sentence("rule (0 .. 2)");
        CordBoard x = desk();
        for (int rule = 0; rule <= 2; rule++) due("rule " + rule, x.cable(0, 0, 0, 0, 0, 0, INT, rule), rule);
        for (int rule : new int[] {-1, 3, MIN, MAX}) refused("rule " + rule, y -> y.cable(0, 0, 0, 0, 0, 0, INT, rule), OUTSIDE);
    }

    private static void placesMayBeAny() {
        sentence("(Places may be any.)");
        int[] places = {MIN, -1, 0, 16, MAX};
        CordBoard x = desk();
        for (int n = 0; n < places.length; n++) {
            due("cable", x.cable(NOTHING, places[n], 0, NOTHING, places[places.length - 1 - n], 0, INT, 0), n);
            toldAll("told", x, n, 1, places[n], places[places.length - 1 - n], 0, 0, NONE, 0);
        }
    }

    private static void cablesAreInAtFirst() {
        sentence("They are IN at first");
        CordBoard x = desk();
        x.cable(NOTHING, 3, 1, NOTHING, 4, 1, INT, 0);
        toldAll("told", x, 0, 1, 3, 4, 0, 0, NONE, 0);
        due("about those in", x.about(2), 1);
    }

    // ---- a tick

    private static void onlyCablesThatAreInGo() {
        sentence("A TICK: each CABLE that is IN");
        CordBoard x = desk();
        x.cable(INT_TRACK, 0, 1, INT_TRACK, 2, 0, INT, 0);
        x.cable(NOTHING, 0, 1, INT_TRACK, 2, 0, INT, 1);
        x.out(0);
        x.out(1);
        due("tick", x.tick(8), 0);
        toldAll("told of one that would move", x, 0, 0, 0, 2, 0, 0, NONE, 0);
        toldAll("told of one that would meet a cause", x, 1, 0, 0, 2, 0, 0, NONE, 0);
        x.tap(INT_TRACK, 2, INT);
        due("seen where it would go", x.seen(), 13);
        due("ticks are counted", x.about(3), 8);
    }

    private static void cablesGoByTheirNumber() {
        sentence("by its number");
        CordBoard x = desk();
        x.cable(INT_TRACK, 0, 0, INT_TRACK, 1, 0, INT, 0);
        x.cable(INT_TRACK, 1, 0, INT_TRACK, 2, 0, INT, 0);
        x.out(0);
        x.in(0);
        x.tick(1);
        x.tap(INT_TRACK, 2, INT);
        due("seen where the second brings what the first has brought", x.seen(), 11);
        x = desk();
        x.cable(INT_TRACK, 1, 0, INT_TRACK, 2, 0, INT, 0);
        x.cable(INT_TRACK, 0, 0, INT_TRACK, 1, 0, INT, 0);
        x.tick(1);
        x.tap(INT_TRACK, 2, INT);
        due("seen where the first goes ahead of the second", x.seen(), 12);
        x.tick(1);
        x.tap(INT_TRACK, 2, INT);
        due("seen one tick later", x.seen(), 11);
    }

    private static void bothPlacesStepOn() {
        sentence("it MOVED: both places become more by their steps");
        CordBoard x = new CordBoard();
        x.plug(0, INT, 16);
        x.plug(1, LONG, 16);
        for (int i = 0; i < 16; i++) x.dial(0, i, INT, 100 + i);
        x.cable(0, 1, 4, 1, 15, -4, INT, 0);
        x.cable(0, 3, 0, 1, 0, 1, AS_IT_IS, 0);
        due("tick", x.tick(4), 8);
        toldAll("told of 4 and -4", x, 0, 1, 17, -1, 4, 0, NONE, 0);
        toldAll("told of 0 and 1", x, 1, 1, 3, 4, 4, 0, NONE, 0);
        // At place 3 both meet in the fourth tick, and the second cable comes behind the first.
        long[] want = {103, 103, 103, 103, 0, 0, 0, 109, 0, 0, 0, 105, 0, 0, 0, 101};
        for (int i = 0; i < 16; i++) {
            x.tap(1, i, LONG);
            due("seen at " + i, x.seen(), want[i]);
        }
        due("tick beyond the ends", x.tick(1), 1);
        toldAll("told then", x, 0, 0, 17, -1, 4, 3, 0, 1);
    }

    private static void placesGoRound() {
        sentence("(as ints go round)");
        int[][] rounds = {{MAX, 1, MIN}, {MAX, 4, MIN + 3}, {MAX - 3, 4, MIN}, {MIN, -1, MAX}, {MIN, -4, MAX - 3}, {MIN + 3, -4, MAX}};
        for (int[] round : rounds) {
            CordBoard x = desk();
            x.cable(INT_TRACK, round[0], round[1], INT_TRACK, 0, 0, INT, 1);
            x.cable(INT_TRACK, 0, 0, INT_TRACK, round[0], round[1], AS_IT_IS, 1);
            x.tick(1);
            toldAll("told from " + round[0], x, 0, 1, round[2], 0, 0, 3, 0, 1);
            toldAll("told to " + round[0], x, 1, 1, 0, round[2], 0, 3, 1, 1);
            x.tick(1);
            due("one step more from", x.told(0, FROM), round[2] + round[1]);
            due("one step more to", x.told(1, TO), round[2] + round[1]);
        }
        CordBoard x = desk();
        x.cable(INT_TRACK, -1, 1, INT_TRACK, -2, 2, INT, 1);
        due("tick from below the places into them", x.tick(2), 1);
        toldAll("told", x, 0, 1, 1, 2, 1, 3, 0, 1);
    }

    // ---- causes

    private static void theSideFromIsFirst() {
        sentence("the CAUSE is noted, with its side (0 FROM, 1 TO)");
        for (int way : new int[] {AS_IT_IS, INT}) {
            CordBoard x = desk();
            x.cable(KNOB_ITSELF, 0, 0, NOTHING, 0, 0, way, 1);
            x.cable(INT_TRACK, 0, 0, NOTHING, 0, 0, way, 1);
            x.cable(INT_TRACK, 3, 0, INT_TRACK, 3, 0, way, 1);
            x.tick(1);
            toldAll("of both ends the one FROM, once", x, 0, 1, 0, 0, 0, 2, 0, 1);
            toldAll("the end TO", x, 1, 1, 0, 0, 0, 1, 1, 1);
            toldAll("no places at both ends", x, 2, 1, 3, 3, 0, 3, 0, 1);
        }
    }

    private static void whatDoesNotGoChangesNothing() {
        sentence("has a CAUSE, changes nothing (but what a TICK tells)");
        int[][] ends = {{INT_TRACK, TRUTH_TRACK}, {KNOBS, FADERS}, {INTS, DOUBLES}, {DOUBLE_TRACK, INT_TRACK},
            {INT_TRACK, KNOB_ITSELF}, {NOTHING, INT_TRACK}};
        CordBoard x = desk();
        for (int[] end : ends) x.cable(end[0], 0, 0, end[1], 0, 0, AS_IT_IS, 0);
        x.tap(INT_TRACK, 2, INT);
        due("tick", x.tick(1), 0);
        due("seen", x.seen(), 13);
        for (int cable = 0; cable < ends.length; cable++) due("causes", x.told(cable, CAUSES), 1);
        due("the sockets hold what they held (1: they do)", heldBy(x).equals(heldBy(desk())) ? 1 : 0, 1);
    }

    private static void ticksAreNotSeen() {
        sentence("SEEN becomes what tap, inner and level tell, not what a TICK carries");
        CordBoard x = desk();
        x.tap(INT_TRACK, 2, INT);
        x.cable(INT_TRACK, 0, 0, INT_TRACK, 1, 0, INT, 0);
        x.cable(INT_TRACK, 0, 0, INT_TRACK, 1, 0, AS_IT_IS, 0);
        due("tick", x.tick(1), 2);
        due("seen", x.seen(), 13);
    }

    // ---- rules; each cable below moves twice, at the places 1 and 2, and meets its cause at 3

    private static CordBoard ruled(int rule) {
        CordBoard x = desk();
        x.cable(INT_TRACK, 1, 1, INT_TRACK, 0, 0, INT, rule);
        due("two moves", x.tick(2), 2);
        toldAll("told ahead of the cause", x, 0, 1, 3, 0, 2, 0, NONE, 0);
        return x;
    }

    private static void ruleZero() {
        sentence("by its RULE: 0 the CABLE is OUT");
        CordBoard x = ruled(0);
        due("tick", x.tick(8), 0);
        toldAll("told", x, 0, 0, 3, 0, 2, 3, 0, 1);
        due("about those in", x.about(2), 0);
    }

    private static void ruleOne() {
        sentence("by its RULE: 1 both places step on");
        CordBoard x = ruled(1);
        due("tick", x.tick(1), 0);
        toldAll("told", x, 0, 1, 4, 0, 2, 3, 0, 1);
        due("more ticks", x.tick(8), 0);
        toldAll("told", x, 0, 1, 12, 0, 2, 3, 0, 9);
        x = desk();
        x.cable(INT_TRACK, 0, 1, NOTHING, 5, -2, INT, 1);
        x.tick(2);
        toldAll("told where the end TO has it", x, 0, 1, 2, 1, 0, 1, 1, 2);
    }

    private static void ruleTwo() {
        sentence("by its RULE: 2 both places are as at the beginning");
        CordBoard x = ruled(2);
        due("tick", x.tick(1), 0);
        toldAll("told", x, 0, 1, 1, 0, 2, 3, 0, 1);
        due("it goes on from there", x.tick(3), 2);
        toldAll("told", x, 0, 1, 1, 0, 4, 3, 0, 2);
        x = desk();
        x.cable(INT_TRACK, 0, 1, INT_TRACK, 1, 1, INT, 2);
        due("two moves and back from the end TO", x.tick(3), 2);
        toldAll("told where the end TO has it", x, 0, 1, 0, 1, 2, 3, 1, 1);
    }

    private static void theLatestCauseStays() {
        sentence("the latest CAUSE (4; 0 none), its side (5; NONE)");
        CordBoard x = desk();
        x.cable(NOTHING, 0, 0, INT_TRACK, 0, 0, INT, 1);
        toldAll("told at first", x, 0, 1, 0, 0, 0, 0, NONE, 0);
        x.tick(1);
        toldAll("told of EMPTY", x, 0, 1, 0, 0, 0, 1, 0, 1);
        x.share(NOTHING, KNOB_ITSELF);
        x.tick(1);
        toldAll("told of WRONG", x, 0, 1, 0, 0, 0, 2, 0, 2);
        x.plug(NOTHING, INT, 1);
        x.tick(1);
        toldAll("told of it behind a move", x, 0, 1, 0, 0, 1, 2, 0, 2);
        x.plug(INT_TRACK, INT, 0);
        x.tick(1);
        toldAll("told of PLACE at the other end", x, 0, 1, 0, 0, 1, 3, 1, 3);
        x.out(0);
        x.in(0);
        toldAll("told of it, out and in again", x, 0, 1, 0, 0, 1, 3, 1, 3);
    }

    // ---- the hundredth cause

    private static void theHundredthOfRuleOne() {
        sentence("With its 100th CAUSE it is OUT as by RULE 0: RULE 1");
        CordBoard x = desk();
        x.cable(NOTHING, 0, 1, INT_TRACK, 0, -1, INT, 1);
        ticks(x, 99);
        toldAll("told with the 99th", x, 0, 1, 99, -99, 0, 1, 0, 99);
        due("tick", x.tick(1), 0);
        toldAll("told with the 100th", x, 0, 0, 99, -99, 0, 1, 0, 100);
        x.tick(8);
        toldAll("told later", x, 0, 0, 99, -99, 0, 1, 0, 100);
    }

    /** One that moves once from 0, meets its cause at 1 and goes back: at its 100th cause it stays at 1. */
    private static void theHundredthOfRuleTwo() {
        sentence("With its 100th CAUSE it is OUT as by RULE 0: RULE 2");
        CordBoard x = new CordBoard();
        x.plug(0, INT, 1);
        x.cable(0, 0, 1, 0, 0, 1, INT, 2);
        ticks(x, 198);
        toldAll("told with the 99th", x, 0, 1, 0, 0, 99, 3, 0, 99);
        x.tick(2);
        toldAll("told with the 100th", x, 0, 0, 1, 1, 100, 3, 0, 100);
        due("moves", x.about(4), 100);
    }

    private static void theHundredthOfRuleZero() {
        sentence("With its 100th CAUSE it is OUT as by RULE 0: RULE 0");
        CordBoard x = desk();
        x.cable(NOTHING, 7, 1, INT_TRACK, 0, 1, INT, 0);
        for (int n = 1; n <= 101; n++) {
            x.tick(2);
            due("told of the causes", x.told(0, CAUSES), n);
            due("told whether it is in", x.told(0, IN), 0);
            due("in", x.in(0), 1);
        }
        due("its place", x.told(0, FROM), 7);
    }

    private static void eachOneBehindTheHundredth() {
        sentence("and each one behind that, whatever its RULE");
        for (int rule = 0; rule <= 2; rule++) {
            CordBoard x = new CordBoard();
            x.plug(0, INT, 1);
            x.cable(1, 0, 1, 0, 0, 1, INT, rule);
            for (int n = 0; n < 100; n++) {
                x.tick(1);
                x.in(0);
            }
            due("the causes", x.told(0, CAUSES), 100);
            for (int n = 101; n <= 103; n++) {
                x.plug(1, INT, 1);
                due("a move behind the 100th", x.tick(1), 1);
                due("it is in", x.told(0, IN), 1);
                x.plug(1, SORT_NOTHING, 0);
                due("ticks with a cause", x.tick(3), 0);
                toldAll("told of one behind the 100th", x, 0, 0, 1, 1, n - 100, 1, 0, n);
                due("in", x.in(0), 1);
            }
        }
    }

    private static void eachCableHasItsOwnCauses() {
        sentence("With its 100th CAUSE: its own, of TICKS alone, those of both sides together");
        CordBoard x = desk();
        x.cable(NOTHING, 0, 0, INT_TRACK, 0, 0, INT, 1);
        x.cable(INT_TRACK, 0, 0, NOTHING, 0, 0, INT, 1);
        for (int n = 0; n < 20; n++) x.tap(NOTHING, 0, INT);
        ticks(x, 60);
        x.share(NOTHING, INT_TRACK);
        ticks(x, 5);
        x.plug(INT_TRACK, SORT_NOTHING, 0);
        ticks(x, 39);
        toldAll("told of the first", x, 0, 1, 0, 0, 5, 1, 1, 99);
        toldAll("told of the second", x, 1, 1, 0, 0, 5, 1, 0, 99);
        x.out(1);
        x.tick(1);
        toldAll("told of the first", x, 0, 0, 0, 0, 5, 1, 1, 100);
        toldAll("told of the second", x, 1, 0, 0, 0, 5, 1, 0, 99);
        due("in", x.in(1), 1);
        x.tick(1);
        toldAll("told of the second", x, 1, 0, 0, 0, 5, 1, 0, 100);
    }

    // ---- what is carried

    private static void cablesLookAtWhatTheirSocketsHoldNow() {
        sentence("an END FROM and an END TO (a SOCKET ..)");
        CordBoard x = desk();
        x.cable(NOTHING, 0, 0, INT_TRACK, 2, 0, INT, 1);
        due("nothing there", x.tick(1), 0);
        x.plug(NOTHING, SHORT, 1);
        x.dial(NOTHING, 0, SHORT, 9);
        due("a track there", x.tick(1), 1);
        x.tap(INT_TRACK, 2, INT);
        due("seen", x.seen(), 9);
        x.mount(NOTHING, KNOB);
        due("a knob there", x.tick(1), 0);
        due("its cause", x.told(0, CAUSE), 2);
    }

    private static void thingsAreCarriedAsTheyAre() {
        sentence("as it is: TAKE, LAY: what stood there still stands there");
        CordBoard x = desk();
        x.plug(NOTHING, SORT_INTS, 1);
        due("a row", carried(x, INTS, 0, NOTHING, 0, AS_IT_IS), 0);
        due("what stands FROM", x.what(INTS, 0), 102);
        x.enter(NOTHING, 0, 0, INT, 77);
        x.inner(INTS, 0, 0, INT);
        due("seen: it is the same row", x.seen(), 77);
        due("nothing over a row", carried(x, INTS, 1, NOTHING, 0, AS_IT_IS), 0);
        due("what stands TO", x.what(NOTHING, 0), NONE);
        due("a place to itself", carried(x, KNOBS, 0, KNOBS, 0, AS_IT_IS), 0);
        due("what stands there", x.what(KNOBS, 0), KNOB);
        sentence("READ, WRITE as of that KIND: of strips and banks nothing");
        due("a knob as of INT", carried(x, KNOBS, 0, KNOBS, 1, INT), WRONG);
        due("a number into a bank as of INT", carried(x, INT_TRACK, 0, INTS, 0, INT), WRONG + AT_TO);
    }

    public static void main(String[] args) {
        cablesAreTwelve();
        stepsAreFourAtMost();
        waysAreNine();
        rulesAreThree();
        placesMayBeAny();
        cablesAreInAtFirst();
        onlyCablesThatAreInGo();
        cablesGoByTheirNumber();
        bothPlacesStepOn();
        placesGoRound();
        theSideFromIsFirst();
        whatDoesNotGoChangesNothing();
        ticksAreNotSeen();
        ruleZero();
        ruleOne();
        ruleTwo();
        theLatestCauseStays();
        theHundredthOfRuleOne();
        theHundredthOfRuleTwo();
        theHundredthOfRuleZero();
        eachOneBehindTheHundredth();
        eachCableHasItsOwnCauses();
        cablesLookAtWhatTheirSocketsHoldNow();
        thingsAreCarriedAsTheyAre();
        finish();
    }
}
