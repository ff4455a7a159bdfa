import java.util.function.ToIntFunction;

/** The edges of STATES and of refusals (document: Terms 2, STATES and Refused; promises 25 to 27). */
public final class StatesEdgeTest {
    private static final Check check = new Check("StatesEdgeTest");

    /** A call and its name. */
    private static final class Named {
        final String name;
        final ToIntFunction<Hues> call;

        Named(String name, ToIntFunction<Hues> call) {
            this.name = name;
            this.call = call;
        }
    }

    /** Each call told S, as it makes something other in BUSY. */
    private static final Named[] CHANGES = {
        new Named("colour", x -> x.colour(9, 8, 7)),
        new Named("paints", x -> x.paints(1, 9, 8, 7)),
        new Named("ground", x -> x.ground(9, 8, 7)),
        new Named("eye: TABLE", x -> x.eye(0, 8, -9)),
        new Named("eye: WEIGHT", x -> x.eye(3, 11, 9)),
        new Named("eye: COUNTS", x -> x.eye(3, 12, 1)),
        new Named("sets: LOW", x -> x.sets(0, 9)),
        new Named("sets: HIGH", x -> x.sets(1, 99)),
        new Named("sets: GAP", x -> x.sets(2, 9)),
        new Named("fixes: on", x -> x.fixes(3, 1)),
        new Named("fixes: off", x -> x.fixes(2, 0)),
        new Named("fills", x -> x.fills(2)),
        new Named("does", x -> x.does())};

    /** Each call told S, as nothing becomes other by it in BUSY. */
    private static final Named[] REPEATS = {
        new Named("paints", x -> x.paints(1, 200, 210, 220)),
        new Named("ground", x -> x.ground(1, 2, 3)),
        new Named("eye: TABLE", x -> x.eye(0, 8, 100)),
        new Named("eye: WEIGHT", x -> x.eye(3, 11, 1)),
        new Named("eye: COUNTS", x -> x.eye(1, 12, 1)),
        new Named("sets: LOW", x -> x.sets(0, 5)),
        new Named("sets: HIGH", x -> x.sets(1, 240)),
        new Named("sets: GAP", x -> x.sets(2, 3)),
        new Named("fixes: on", x -> x.fixes(2, 1)),
        new Named("fixes: off", x -> x.fixes(3, 0)),
        new Named("fills", x -> x.fills(3)),
        new Named("swaps", x -> x.swaps())};

    /** Each call that is not told S, but back(). */
    private static final Named[] OTHERS = {
        new Named("of", x -> x.of(0, 4)), new Named("look", x -> x.look(0, 0)),
        new Named("light", x -> x.light(0)), new Named("seen", x -> x.seen(0, 0, 0)),
        new Named("distance", x -> x.distance(0, 0, 1)), new Named("apart", x -> x.apart(0, 1)),
        new Named("palette", x -> x.palette(0)), new Named("palette: NONE", x -> x.palette(8)),
        new Named("least", x -> x.least()), new Named("nearest", x -> x.nearest()),
        new Named("best", x -> x.best(3)), new Named("best: NONE", x -> x.best(1)),
        new Named("mistaken", x -> x.mistaken(0, 9999)), new Named("count", x -> x.count(1)),
        new Named("told", x -> x.told(7)), new Named("digest", x -> (int) x.digest())};

    public static void main(String[] args) {
        eachCallToldSLeavesOne();
        alsoIfNothingBecomesOther();
        noOtherCallLeavesOne();
        eachCallGoesBackWhole();
        fiveAtMost();
        olderOnesAreLost();
        backTellsHowManyCanBeYet();
        backNoneIsNo();
        backLeavesNoState();
        backDoesNotTouchTheText();
        backDoesNotTouchHowOften();
        newOnesBehindABack();
        backBringsColoursAndPlaces();
        refusedCallsLeaveNone();
        badBeforeFull();
        badBeforeNo();
        eachKindHasItsOwnCount();
        toldOfItself();
        digestOfAllSituations();
        digestWraps();
        digestChangesNothing();
        check.end();
    }

    private static Snapshot butStates(Hues x) {
        return new Snapshot(x).without("told 7");
    }

    private static Hues busyWithTwoStates() {
        Hues x = Situation.BUSY.make();
        x.back();
        x.back();
        x.back();
        return x;
    }

    private static void eachCallToldSLeavesOne() {
        for (Named change : CHANGES) {
            Hues x = Situation.BUSY.make();
            check.notRefused(change.name, x, change.call);
            check.due(change.name + ": five already", x.told(7), 5);
            Hues before = Situation.BUSY.make();
            check.due(change.name + ": something is other", butStates(x).difference(butStates(before)).isEmpty() ? 1 : 0, 0);
            x = busyWithTwoStates();
            change.call.applyAsInt(x);
            check.due(change.name + ": two before", x.told(7), 3);
        }
        Hues x = Hues.reds(0, 100, 255);
        x.doText("f0 1;f1 1;p2;f0 0;f1 0;");
        check.due("swaps: four before", x.told(7), 4);
        check.due("swaps", x.swaps(), 2);
        check.due("swaps: one more", x.told(7), 5);
        check.due("swaps: back", x.back(), 4);
        check.dueRow("swaps: back", x, 0, 1);
    }

    private static void alsoIfNothingBecomesOther() {
        for (Named repeat : REPEATS) {
            Hues x = Situation.BUSY.make();
            check.notRefused(repeat.name, x, repeat.call);
            check.like(repeat.name + ": nothing is other", x, Situation.BUSY.make());
            check.due(repeat.name + ": back", x.back(), 4);
            check.like(repeat.name + ": back", butStates(x), butStates(Situation.BUSY.make()));
            check.due(repeat.name + ": one more back", x.back(), 3);
            Hues twin = Situation.BUSY.make();
            twin.back();
            check.like(repeat.name + ": one more back", butStates(x), butStates(twin));
        }
        Hues x = new Hues();
        check.due("does", x.doText("l0 255;"), 1);
        check.due("does: one STATE", x.told(7), 1);
        check.due("fills without COLOURS", x.fills(1), 0);
        check.due("fills: two STATES", x.told(7), 2);
        check.due("swaps without COLOURS", x.swaps(), 0);
        check.due("swaps: three STATES", x.told(7), 3);
    }

    private static void noOtherCallLeavesOne() {
        for (Named other : OTHERS) {
            Hues x = Situation.BUSY.make();
            check.notRefused(other.name, x, other.call);
            check.like(other.name, x, Situation.BUSY.make());
            x = busyWithTwoStates();
            other.call.applyAsInt(x);
            check.like(other.name, x, busyWithTwoStates());
        }
        Hues x = busyWithTwoStates();
        x.type(';');
        check.due("type", x.told(7), 2);
        x.clear();
        check.due("clear", x.told(7), 2);
    }

    private static void eachCallGoesBackWhole() {
        for (Named change : CHANGES) {
            Hues x = Situation.BUSY.make();
            change.call.applyAsInt(x);
            check.due(change.name + ": back", x.back(), 4);
            check.like(change.name + ": back", butStates(x), butStates(Situation.BUSY.make()));
        }
    }

    private static void fiveAtMost() {
        Hues x = new Hues();
        for (int calls = 1; calls <= 12; calls++) {
            x.sets(0, calls);
            check.due("STATES", x.told(7), calls <= 5 ? calls : 5);
        }
    }

    private static void olderOnesAreLost() {
        for (int calls = 4; calls <= 7; calls++) {
            Hues x = new Hues();
            for (int v = 1; v <= calls; v++) {
                x.sets(2, v);
            }
            int states = calls < 5 ? calls : 5;
            for (int left = states - 1; left >= 0; left--) {
                check.due("back()", x.back(), left);
            }
            check.due("the oldest that is kept of " + calls, x.told(5), calls - states);
            check.refused("older ones of " + calls, x, HuesApart.NO, y -> y.back());
            check.due("it stays there", x.told(5), calls - states);
        }
    }

    private static void backTellsHowManyCanBeYet() {
        Hues x = new Hues();
        x.sets(0, 1);
        check.due("one", check.notRefused("one", x, y -> y.back()), 0);
        x.sets(0, 1);
        x.sets(0, 2);
        check.due("two", x.back(), 1);
        check.due("STATES", x.told(7), 1);
        check.due("LOW", x.told(3), 1);
        check.due("one", x.back(), 0);
        check.due("LOW", x.told(3), 0);
        check.due("STATES", x.told(7), 0);
    }

    private static void backNoneIsNo() {
        check.refusedIn(Situation.NEW, "back()", HuesApart.NO, x -> x.back());
        Hues x = Situation.BUSY.make();
        for (int k = 0; k < 5; k++) {
            x.back();
        }
        Snapshot before = new Snapshot(x);
        check.due("all gone", x.back(), HuesApart.NO);
        check.due("again", x.back(), HuesApart.NO);
        check.due("how often NO (once before)", x.told(1), 3);
        check.like("nothing is other", new Snapshot(x), before);
    }

    private static void backLeavesNoState() {
        Hues x = new Hues();
        x.sets(0, 1);
        x.sets(0, 2);
        x.back();
        check.due("STATES", x.told(7), 1);
        x.back();
        check.due("STATES", x.told(7), 0);
        check.due("there is no way forth", x.back(), HuesApart.NO);
        check.due("LOW", x.told(3), 0);
    }

    private static void backDoesNotTouchTheText() {
        Hues x = new Hues();
        x.type('s');
        x.sets(0, 1);
        x.type(';');
        x.back();
        check.due("what was typed since stays", x.told(6), 2);
        check.due("and is done", x.does(), 1);
        x.sets(0, 2);
        x.clear();
        x.back();
        check.due("what was cleared since stays so", x.told(6), 0);
        check.due("and is not there", x.does(), -10);
    }

    private static void backDoesNotTouchHowOften() {
        Hues x = Situation.CROWDED.make();
        int[] before = {x.told(0), x.told(1), x.told(2)};
        x.sets(0, 1);
        x.sets(3, 1);
        x.fills(8);
        x.type(0);
        x.back();
        for (int k = 0; k < 3; k++) {
            check.due("told(" + k + ")", x.told(k), before[k] + 1);
        }
    }

    private static void newOnesBehindABack() {
        Hues x = new Hues();
        for (int v = 1; v <= 7; v++) {
            x.sets(1, v);
        }
        x.back();
        x.back();
        check.due("HIGH", x.told(4), 5);
        for (int v = 101; v <= 103; v++) {
            x.sets(1, v);
        }
        check.due("STATES", x.told(7), 5);
        int[] due = {102, 101, 5, 4, 3};
        for (int k = 0; k < 5; k++) {
            check.due("back()", x.back(), 4 - k);
            check.due("HIGH", x.told(4), due[k]);
        }
        check.due("no more", x.back(), HuesApart.NO);
    }

    private static void backBringsColoursAndPlaces() {
        Hues x = Hues.reds(0, 255);
        x.fills(2);
        x.colour(9, 9, 9);
        x.fixes(2, 1);
        x.fills(1);
        check.dueRow("the FIXED one", x, 2);
        x.back();
        check.dueRow("before", x, 1, 0);
        x.back();
        check.due("not FIXED", x.count(2), 0);
        x.back();
        check.due("COLOURS", x.count(0), 2);
        x.back();
        check.dueRow("not filled yet", x);
        check.due("the same number again", x.colour(1, 1, 1), 2);
        check.due("its R is the new one", x.of(2, 0), 1);
        check.due("it is not FIXED", x.of(2, 3), 0);
        check.due("it is in no place", x.of(2, 5), HuesApart.NONE);
    }

    private static void refusedCallsLeaveNone() {
        Named[] refused = {
            new Named("colour", x -> x.colour(256, 0, 0)), new Named("paints", x -> x.paints(4, 0, 0, 0)),
            new Named("ground", x -> x.ground(0, 0, -1)), new Named("eye", x -> x.eye(0, 12, 2)),
            new Named("sets", x -> x.sets(0, 256)), new Named("fixes", x -> x.fixes(4, 1)),
            new Named("fills: BAD", x -> x.fills(9)), new Named("fills: NO", x -> x.fills(1))};
        for (Named call : refused) {
            Hues x = busyWithTwoStates();
            x.fixes(2, 1);
            int kind = call.call.applyAsInt(x);
            check.due(call.name, kind == HuesApart.BAD || kind == HuesApart.NO ? 1 : 0, 1);
            check.due(call.name + ": STATES", x.told(7), 3);
        }
    }

    private static void badBeforeFull() {
        check.refusedIn(Situation.CROWDED, "colour: R", HuesApart.BAD, x -> x.colour(256, 0, 0));
        check.refusedIn(Situation.CROWDED, "colour: G", HuesApart.BAD, x -> x.colour(0, -1, 0));
        check.refusedIn(Situation.CROWDED, "colour: B", HuesApart.BAD, x -> x.colour(0, 0, 256));
        check.refusedIn(Situation.CROWDED, "type", HuesApart.BAD, x -> x.type(128));
        check.refusedIn(Situation.CROWDED, "type", HuesApart.BAD, x -> x.type(-1));
    }

    private static void badBeforeNo() {
        check.refusedIn(Situation.CROWDED, "fills", HuesApart.BAD, x -> x.fills(9));
        check.refusedIn(Situation.CROWDED, "fills", HuesApart.BAD, x -> x.fills(0));
        check.refusedIn(Situation.BUSY, "fills", HuesApart.BAD, x -> x.fills(0));
    }

    private static void eachKindHasItsOwnCount() {
        Hues x = Situation.CROWDED.make();
        int[] due = {x.told(0), x.told(1), x.told(2)};
        for (int round = 0; round < 30; round++) {
            int kind = round * round % 3;
            due[kind]++;
            int answer = kind == 0 ? x.of(20, 0) : kind == 1 ? x.fills(8) : round % 2 == 0 ? x.colour(0, 0, 0) : x.type(0);
            check.due("answer", answer, -2 - kind);
            for (int k = 0; k < 3; k++) {
                check.due("told(" + k + ")", x.told(k), due[k]);
            }
        }
        x.fills(8);
        x.type(3);
        x.type(3);
        due[1]++;
        due[2] += 2;
        for (int k = 0; k < 3; k++) {
            check.due("told(" + k + ")", x.told(k), due[k]);
        }
    }

    private static void toldOfItself() {
        Hues x = new Hues();
        check.due("none yet", x.told(0), 0);
        check.due("told(8)", x.told(8), HuesApart.BAD);
        check.due("it counts itself", x.told(0), 1);
        check.due("told(-1)", x.told(-1), HuesApart.BAD);
        check.due("it counts itself", x.told(0), 2);
    }

    private static void digestOfAllSituations() {
        for (Situation situation : Situation.values()) {
            Hues x = situation.make();
            check.due(situation + ": digest", x.digest(), x.digestByHand());
        }
        Hues one = Hues.reds(9);
        one.fills(1);
        check.due("one in THE PALETTE: NONE for nearest()", one.digest(), one.digestByHand());
        Hues below = Hues.reds(9, 19);
        for (int k = 0; k < 9; k++) {
            below.eye(k % 4, k, -1 - k);
        }
        check.due("numbers below 0", below.digest(), below.digestByHand());
    }

    /** The answer of a new object, reckoned apart from the class with numbers of any size. */
    private static void digestWraps() {
        java.math.BigInteger h = java.math.BigInteger.valueOf(2619);
        int[] eye = {100, 0, 0, 0, 100, 0, 0, 0, 100, 1, 1, 1};
        int[] all = new int[8 + 8 + 52 + 2];
        all[4] = 255;
        all[12] = 1;
        all[13] = 255;
        all[14] = 255;
        all[15] = 255;
        for (int e = 0; e < 4; e++) {
            System.arraycopy(eye, 0, all, 16 + 13 * e, 12);
        }
        all[16 + 12] = 1;
        all[69] = -1;
        for (int v : all) {
            h = h.multiply(java.math.BigInteger.valueOf(31)).add(java.math.BigInteger.valueOf(v));
        }
        check.due("it is beyond a long", h.bitLength() > 64 ? 1 : 0, 1);
        check.due("a new object", new Hues().digest(), h.longValue());
    }

    private static void digestChangesNothing() {
        for (Situation situation : Situation.values()) {
            Hues x = situation.make();
            long first = x.digest();
            check.due(situation + ": the same again", x.digest(), first);
            check.like(situation + ": nothing is other", x, situation.make());
            x = situation.make();
            x.told(8);
            check.due(situation + ": a refusal shows", x.digest() == first ? 1 : 0, 0);
        }
    }
}
