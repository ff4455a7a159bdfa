import java.util.function.ToIntFunction;

/**
 * The edges of ORDERS (document: Terms 2, "an ORDER that a call would refuse then ends all, nothing is
 * done", "By THE TEXT nothing counts"; promise 24): for each number of each ORDER the last one that is
 * taken, with what comes of it, and the first one by which the ORDER ends all.
 */
public final class OrdersEdgeTest {
    private static final Check check = new Check("OrdersEdgeTest");

    public static void main(String[] args) {
        coloursUpToTwenty();
        coloursWithinOneText();
        fixesOfTheLastColour();
        fixesOfAColourOfTheSameText();
        fixesOnOrNot();
        lowUpTo255();
        highUpTo255();
        lowThenHigh();
        fillsOneToEight();
        fillsWithFixedOnes();
        fillsWithoutSwaps();
        swapsAreNeverRefused();
        numbersOfOrders();
        whichOneEndsAll();
        ordersAreDoneInTurn();
        eachOrderIsAsItsCalls();
        anOrderThatEndsAllDoesNothing();
        byTheTextNothingCounts();
        oneStateForAll();
        check.end();
    }

    private static void taken(String what, Hues x, String text, int orders) {
        check.due(what, check.notRefused(what, x, y -> y.doText(text)), orders);
    }

    /** That ORDER 'order' ends all: neither is anything done, nor does it count, nor is a STATE left. */
    private static void endsAll(String what, Hues x, String text, int order) {
        x.write(text);
        int states = x.told(7);
        int colours = x.count(0);
        int fixed = x.count(2);
        int row = x.count(3);
        int low = x.told(3);
        int high = x.told(4);
        check.due(what, check.notRefused(what, x, y -> y.does()), -1000 - order);
        check.due(what + ": STATES", x.told(7), states);
        check.due(what + ": COLOURS", x.count(0), colours);
        check.due(what + ": FIXED ones", x.count(2), fixed);
        check.due(what + ": THE PALETTE", x.count(3), row);
        check.due(what + ": LOW", x.told(3), low);
        check.due(what + ": HIGH", x.told(4), high);
        check.due(what + ": THE TEXT", x.told(6), text.length());
    }

    private static Hues some(int colours) {
        Hues x = new Hues();
        for (int i = 0; i < colours; i++) {
            x.colour(10 * i, 0, 0);
        }
        return x;
    }

    private static void coloursUpToTwenty() {
        Hues x = some(19);
        taken("the 20th", x, "cffffff;", 1);
        check.due("its R", x.of(19, 0), 255);
        endsAll("the 21st", x, "cffffff;", 0);
        x = some(18);
        taken("19th and 20th", x, "c000000;c0000ff;", 2);
        x = some(19);
        endsAll("20th and 21st", x, "c000000;c0000ff;", 1);
        check.due("not even the 20th", x.count(0), 19);
    }

    private static void coloursWithinOneText() {
        Hues x = some(5);
        taken("15 of one TEXT", x, "c010203;".repeat(15), 15);
        check.due("COLOURS", x.count(0), 20);
        x = some(6);
        endsAll("the last of 15", x, "c010203;".repeat(15), 14);
        x = some(20);
        endsAll("the first of 15", x, "c010203;".repeat(15), 0);
    }

    private static void fixesOfTheLastColour() {
        for (int colours : new int[] {1, 4, 20}) {
            Hues x = some(colours);
            taken("the last of " + colours, x, "f " + (colours - 1) + " 1;", 1);
            check.due("FIXED", x.count(2), 1 << colours - 1);
            endsAll("behind the last of " + colours, x, "f " + colours + " 1;", 0);
            endsAll("far behind the last of " + colours, x, "f 999 1;", 0);
        }
        endsAll("no COLOURS", new Hues(), "f 0 1;", 0);
    }

    private static void fixesOfAColourOfTheSameText() {
        Hues x = new Hues();
        taken("it is there by then", x, "c000000;f0 1;", 2);
        check.due("FIXED", x.count(2), 1);
        endsAll("it is not there yet", x, "f1 1;c000000;", 0);
    }

    private static void fixesOnOrNot() {
        Hues x = some(2);
        taken("on 1", x, "f1 1;", 1);
        check.due("FIXED", x.count(2), 2);
        taken("on 0", x, "f1 0;", 1);
        check.due("not FIXED", x.count(2), 0);
        endsAll("on 2", x, "f1 2;", 0);
        endsAll("on 999", x, "f1 999;", 0);
    }

    private static void lowUpTo255() {
        Hues x = new Hues();
        taken("LOW 255", x, "l 255 200;", 1);
        check.due("LOW", x.told(3), 255);
        endsAll("LOW 256", x, "l 256 200;", 0);
        endsAll("LOW 999", x, "l 999 200;", 0);
        taken("LOW 0", x, "l 0 200;", 1);
        check.due("LOW", x.told(3), 0);
    }

    private static void highUpTo255() {
        Hues x = new Hues();
        taken("HIGH 0", x, "l 7 0;", 1);
        check.due("HIGH", x.told(4), 0);
        endsAll("HIGH 256", x, "l 7 256;", 0);
        endsAll("HIGH 999", x, "l 7 999;", 0);
        taken("HIGH 255", x, "l 7 255;", 1);
        check.due("HIGH", x.told(4), 255);
    }

    private static void lowThenHigh() {
        Hues x = new Hues();
        taken("LOW below HIGH", x, "l 3 4;", 1);
        check.due("LOW", x.told(3), 3);
        check.due("HIGH", x.told(4), 4);
        check.due("GAP", x.told(5), 0);
        taken("LOW above HIGH", x, "l 4 3;", 1);
        check.due("LOW", x.told(3), 4);
        check.due("HIGH", x.told(4), 3);
        endsAll("HIGH alone is wrong: LOW stays, too", x, "l 9 300;", 0);
    }

    private static void fillsOneToEight() {
        for (int n = 1; n <= 8; n++) {
            Hues x = some(20);
            taken("p " + n, x, "p" + n + ";", 1);
            check.due("how many are in it", x.count(3), n);
            endsAll("p 0", x, "p0;", 0);
            endsAll("p 9", x, "p9;", 0);
            endsAll("p 999", x, "p 999;", 0);
        }
    }

    private static void fillsWithFixedOnes() {
        for (int n = 1; n <= 8; n++) {
            Hues x = some(20);
            for (int i = 0; i < n; i++) {
                x.fixes(2 * i, 1);
            }
            taken("as many FIXED as n", x, "p" + n + ";", 1);
            check.due("how many are in it", x.count(3), n);
            endsAll("more than n FIXED", x, "f1 1;p" + n + ";", 1);
            taken("as many again", x, "f1 1;f0 0;p" + n + ";", 3);
        }
    }

    private static void fillsWithoutSwaps() {
        Hues x = Hues.with(0, 0, 0, 255, 255, 255, 255, 0, 0, 0, 255, 0, 0, 0, 255, 128, 128, 128);
        taken("p4;", x, "p4;", 1);
        check.dueRow("filled alone", x, 1, 0, 2, 3);
        taken("p4;s;", x, "p4;s;", 2);
        check.dueRow("swapped, too", x, 1, 4, 2, 3);
    }

    private static void swapsAreNeverRefused() {
        taken("without COLOURS", new Hues(), "s;", 1);
        for (Situation situation : Situation.values()) {
            taken(situation + ": s", situation.make(), "s;s;", 2);
        }
    }

    /** The least and the greatest number that an ORDER that ends all can have in 120 bytes. */
    private static void numbersOfOrders() {
        endsAll("ORDER 0", some(1), "p9;", 0);
        endsAll("ORDER 0 of many", some(1), "p9;" + "s;".repeat(58), 0);
        endsAll("ORDER 58", some(1), "s;".repeat(58) + "p9; ", 58);
        taken("59 of them are fine", some(1), "s;".repeat(58) + "p8; ", 59);
    }

    private static void whichOneEndsAll() {
        for (int order = 0; order < 20; order++) {
            endsAll("ORDER " + order, some(1), "p1;".repeat(order) + "p9;" + "p0;".repeat(19 - order), order);
        }
    }

    private static void ordersAreDoneInTurn() {
        Hues x = new Hues();
        taken("in turn", x, "c0000ff;c00ff00;p1;f0 1;l0 99;p2;f0 0;p2;", 8);
        check.dueRow("the green one does not FIT any more", x, 0);
        x = new Hues();
        taken("in turn", x, "c0000ff;c00ff00;f0 1;p2;f0 0;l0 99;", 6);
        check.dueRow("filled before that", x, 0, 1);
        x = Hues.reds(0, 50, 255);
        taken("fills, then swaps", x, "l0 15;p2;l0 255;s;", 4);
        check.dueRow("1, 0, then 2 to the first place", x, 2, 0);
    }

    /** Ten COLOURS of which the first five, a poor choice, are FIXED and in THE PALETTE. */
    private static Hues fiveOfTen() {
        Hues x = Hues.reds(0, 10, 20, 30, 40, 50, 130, 170, 210, 255);
        x.fixAll(1, 0, 1, 2, 3, 4);
        x.fills(5);
        return x;
    }

    /** A TEXT done before leaves ORDERS of another kind behind, of which nothing may stay. */
    private static void eachOrderIsAsItsCalls() {
        for (String before : new String[] {"f0 1;", "f9 0;", "l9 1;l0 255;", "p8;", "cffffff;", "s;"}) {
            asCalls(before, "c000001;", x -> x.colour(0, 0, 1));
            asCalls(before, "c000004;", x -> x.colour(0, 0, 4));
            asCalls(before, "cffffff;", x -> x.colour(255, 255, 255));
            asCalls(before, "f0 0;", x -> x.fixes(0, 0));
            asCalls(before, "f9 1;", x -> x.fixes(9, 1));
            asCalls(before, "l3 4;", x -> x.sets(0, 3) + x.sets(1, 4));
            asCalls(before, "p5;", x -> x.fills(5));
            asCalls(before, "p7;", x -> x.fills(7));
            asCalls(before, "s;", x -> x.swaps());
        }
    }

    private static void asCalls(String before, String text, ToIntFunction<Hues> calls) {
        Hues x = fiveOfTen();
        Hues twin = fiveOfTen();
        for (Hues each : new Hues[] {x, twin}) {
            each.doText(before);
            each.fixAll(0, 0, 1, 2);
            each.write(text);
        }
        check.due(text, x.does(), 1);
        calls.applyAsInt(twin);
        check.like(before + " then " + text, new Snapshot(x).without("told 7"), new Snapshot(twin).without("told 7"));
    }

    private static void anOrderThatEndsAllDoesNothing() {
        String before = "l 9 99;f 1 1;f 0 0;p 8;s;";
        String[] ends = {"p9;", "f 99 1;", "l 256 0;", "p0;s;", "f1 2;c000000;"};
        for (Situation situation : new Situation[] {Situation.BUSY, Situation.CROWDED}) {
            for (String end : ends) {
                nothingDone(situation, end, 0);
                nothingDone(situation, before.replace("p 8;", situation == Situation.BUSY ? "p 8;" : "s;") + end, 5);
            }
        }
        nothingDone(Situation.BUSY, "c000000;c111111;f4 1;p9;", 3);
        nothingDone(Situation.CROWDED, "c000000;", 0);
        nothingDone(Situation.CROWDED, "f1 1;p8;", 1);
        nothingDone(Situation.NEW, "c000000;p1;f0 1;s;p9;", 4);
    }

    private static void nothingDone(Situation situation, String text, int order) {
        String what = situation + ": '" + text + "'";
        int states = situation.make().told(7);
        for (int steps = 0; steps <= states; steps++) {
            Hues x = situation.make();
            Hues twin = situation.make();
            x.write(text);
            twin.write(text);
            check.due(what, x.does(), -1000 - order);
            for (int step = 0; step < steps; step++) {
                check.due(what + ", then back()", x.back(), twin.back());
            }
            check.like(what + ", then back() " + steps + " times", x, twin);
        }
    }

    /** Refusals of each kind, BAD, NO and FULL, that count for a call, but not for an ORDER. */
    private static void byTheTextNothingCounts() {
        Hues x = some(20);
        x.fixAll(1, 0, 1);
        endsAll("FULL", x, "c000000;", 0);
        endsAll("NO", x, "p1;", 0);
        endsAll("BAD", x, "p9;", 0);
        for (int k = 0; k < 3; k++) {
            check.due("told(" + k + ")", x.told(k), 0);
        }
        x.colour(0, 0, 0);
        x.fills(1);
        x.fills(9);
        for (int k = 0; k < 3; k++) {
            check.due("by calls: told(" + k + ")", x.told(k), 1);
        }
    }

    private static void oneStateForAll() {
        Hues x = new Hues();
        taken("eight ORDERS", x, "c0000ff;c00ff00;p1;f0 1;l0 99;p2;f0 0;p2;", 8);
        check.due("one STATE", x.told(7), 1);
        check.due("back", x.back(), 0);
        check.like("as at first", new Snapshot(x).without("told 6"), new Snapshot(new Hues()).without("told 6"));
        for (String text : new String[] {"l 0 255;", "s;", "p1;", "s;p8;s;"}) {
            x = new Hues();
            x.doText(text);
            check.due("nothing becomes other by " + text + " but one STATE is left", x.told(7), 1);
        }
        Hues busy = Situation.BUSY.make();
        taken("five already", busy, "l 0 255;s;p4;", 3);
        check.due("five still", busy.told(7), 5);
        busy.back();
        check.like("as before", new Snapshot(busy).without("told 6", "told 7"),
            new Snapshot(Situation.BUSY.make()).without("told 6", "told 7"));
    }
}
