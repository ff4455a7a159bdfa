/** Promises 14 to 21: fills, swaps, palette, least, nearest, best, mistaken, count. */
public final class PalettesTest {
    private static final Check check = new Check("PalettesTest");

    public static void main(String[] args) {
        fills();
        fillsWithFixedOnes();
        fillsRefused();
        swaps();
        swapsLeaveFixedOnes();
        sixtySwapsAtMost();
        palette();
        leastAndNearest();
        best();
        bestOfTwenty();
        mistaken();
        count();
        check.end();
    }

    private static void fills() {
        Hues none = new Hues();
        check.due("no COLOURS", none.fills(3), 0);
        check.due("leaves a STATE", none.told(7), 1);
        Hues x = Hues.reds(10, 200, 100, 200, 0);
        check.due("fills(1)", x.fills(1), 1);
        check.dueRow("the lightest, of like ones the first", x, 1);
        check.due("fills(3)", x.fills(3), 3);
        check.dueRow("the farthest, the middle", x, 1, 4, 2);
        check.due("fills(8)", x.fills(8), 5);
        check.dueRow("all", x, 1, 4, 2, 0, 3);
        Hues ties = Hues.reds(100, 0, 200, 100);
        ties.fills(4);
        check.dueRow("of like ones the least number", ties, 2, 1, 0, 3);
        x.sets(1, 29);
        check.due("some FIT", x.fills(8), 2);
        check.dueRow("those that FIT", x, 0, 4);
        x.sets(0, 31);
        check.due("none FITS", x.fills(8), 0);
        check.dueRow("empty", x);
        x.back();
        check.dueRow("back", x, 0, 4);
    }

    private static void fillsWithFixedOnes() {
        Hues x = Hues.reds(10, 200, 100, 150, 0);
        x.sets(0, 20);
        x.fixes(4, 1);
        x.fixes(0, 1);
        check.due("fills(2)", x.fills(2), 2);
        check.dueRow("rising, whether they FIT or not", x, 0, 4);
        check.due("fills(4)", x.fills(4), 4);
        check.dueRow("the farthest behind them", x, 0, 4, 1, 2);
        x.sets(0, 255);
        check.due("no other FITS", x.fills(8), 2);
        check.dueRow("FIXED ones alone", x, 0, 4);
    }

    private static void fillsRefused() {
        Hues x = Hues.reds(1, 2, 3, 4, 5, 6, 7, 8, 9);
        check.refused("n", x, HuesApart.BAD, y -> y.fills(0));
        check.refused("n", x, HuesApart.BAD, y -> y.fills(9));
        check.refused("n", x, HuesApart.BAD, y -> y.fills(Integer.MIN_VALUE));
        x.fills(2);
        for (int i = 0; i < 8; i++) {
            x.fixes(i, 1);
        }
        check.refused("more than n FIXED", x, HuesApart.NO, y -> y.fills(7));
        check.dueRow("as it was", x, 8, 0);
        check.due("n FIXED", x.fills(8), 8);
        x.fixes(8, 1);
        check.refused("nine FIXED", x, HuesApart.NO, y -> y.fills(8));
        check.refused("BAD comes before NO", x, HuesApart.BAD, y -> y.fills(9));
        check.dueRow("as it was", x, 0, 1, 2, 3, 4, 5, 6, 7);
    }

    private static void swaps() {
        Hues x = Hues.reds(0, 20, 40, 100, 250);
        check.due("empty", x.swaps(), 0);
        check.due("leaves a STATE", x.told(7), 5);
        x.sets(1, 12);
        x.fills(3);
        check.dueRow("filled", x, 2, 0, 1);
        check.due("no other FITS", x.swaps(), 0);
        x.sets(1, 255);
        check.dueFloat("LEAST", x.least(), 400f);
        check.due("two", x.swaps(), 2);
        check.dueRow("3 to the third place first, then 4 to the first", x, 4, 0, 3);
        check.dueFloat("LEAST", x.least(), 10000f);
        x.back();
        check.dueRow("back", x, 2, 0, 1);
        Hues one = Hues.reds(0, 200);
        one.fills(1);
        check.due("one alone is not exchanged", one.swaps(), 0);
        check.dueRow("one", one, 1);
    }

    private static void swapsLeaveFixedOnes() {
        Hues x = Hues.reds(0, 100, 120, 200);
        x.sets(1, 36);
        x.fills(2);
        check.dueRow("filled", x, 2, 0);
        x.sets(1, 255);
        x.fixes(2, 1);
        check.due("the FIXED one stays", x.swaps(), 0);
        x.paints(3, 255, 0, 0);
        check.due("the other goes", x.swaps(), 1);
        check.dueRow("its place", x, 2, 3);
        x.fixes(3, 1);
        x.paints(0, 0, 0, 255);
        check.due("both FIXED", x.swaps(), 0);
        x.fixes(3, 0);
        x.sets(0, 30);
        check.due("one that does not FIT does not come", x.swaps(), 0);
        x.sets(0, 0);
        check.due("it FITS", x.swaps(), 1);
        check.dueRow("its place", x, 2, 0);
    }

    private static void sixtySwapsAtMost() {
        Hues x = SwapsEdgeTest.longWay();
        check.dueRow("to begin with", x, 0, 2, 4, 7);
        check.due("60 at most", x.swaps(), 60);
        check.due("three are left", x.swaps(), 3);
        check.due("none is left", x.swaps(), 0);
    }

    private static void palette() {
        Hues x = Hues.reds(5, 6);
        x.fills(2);
        check.due("first", x.palette(0), 1);
        check.due("second", x.palette(1), 0);
        check.due("behind", x.palette(2), HuesApart.NONE);
        check.due("far behind", x.palette(Integer.MAX_VALUE), HuesApart.NONE);
        check.refused("below 0", x, HuesApart.BAD, y -> y.palette(-1));
        check.refused("below 0", x, HuesApart.BAD, y -> y.palette(Integer.MIN_VALUE));
    }

    private static void leastAndNearest() {
        Hues x = Hues.reds(200, 0, 100, 50);
        x.fills(1);
        check.due("one: least", x.least(), 0);
        check.due("one: nearest", x.nearest(), HuesApart.NONE);
        x.fills(2);
        check.dueFloat("two: least", x.least(), 40000f);
        check.due("two: nearest", x.nearest(), 1);
        x.fills(4);
        check.dueRow("four", x, 0, 1, 2, 3);
        check.dueFloat("four: least", x.least(), 2500f);
        check.due("four: the first i of like ones", x.nearest(), 13);
        x.paints(1, 100, 0, 0);
        check.due("the first j of like ones", x.nearest(), 12);
        check.due("like COLOURS are 0f APART", x.least(), 0);
        x.eye(0, 12, 0);
        check.due("none COUNTS: nearest", x.nearest(), 1);
        Hues eight = Hues.reds(0, 30, 60, 90, 120, 150, 180, 181);
        for (int i = 0; i < 8; i++) {
            eight.fixes(i, 1);
        }
        eight.fills(8);
        check.due("the last two", eight.nearest(), 67);
    }

    private static void best() {
        Hues none = new Hues();
        check.due("no COLOURS", none.best(1), HuesApart.NONE);
        check.refused("n", none, HuesApart.BAD, y -> y.best(0));
        check.refused("n", none, HuesApart.BAD, y -> y.best(5));
        check.refused("n", none, HuesApart.BAD, y -> y.best(Integer.MAX_VALUE));
        Hues x = Hues.reds(0, 50, 100, 150, 200);
        check.due("best(1): least as bits", x.best(1), 1);
        check.due("best(2)", x.best(2), 1 | 1 << 4);
        check.due("best(3)", x.best(3), 1 | 1 << 2 | 1 << 4);
        check.due("best(4): of like ones the least as bits", x.best(4), 1 | 1 << 1 | 1 << 2 | 1 << 3);
        check.due("leaves no STATE", x.told(7), 5);
        x.fixes(1, 1);
        check.due("the FIXED one alone", x.best(1), 2);
        check.due("with the FIXED one", x.best(2), 1 << 1 | 1 << 4);
        x.sets(1, 50);
        check.due("others FIT", x.best(2), 1 << 1 | 1 << 3);
        x.sets(0, 40);
        check.due("FIXED ones need not FIT", x.best(2), 1 << 1 | 1 << 3);
        check.due("too few", x.best(3), HuesApart.NONE);
        x.fixes(0, 1);
        x.fixes(4, 1);
        check.due("more than n FIXED", x.best(2), HuesApart.NONE);
        check.due("just the FIXED ones", x.best(3), 1 | 1 << 1 | 1 << 4);
    }

    /** The last of all sets of four is the best one, so each of them must have been tried. */
    private static void bestOfTwenty() {
        Hues x = new Hues();
        for (int i = 0; i < 16; i++) {
            x.colour(100 + i, 100, 100);
        }
        x.colour(255, 0, 0);
        x.colour(0, 255, 0);
        x.colour(0, 0, 255);
        x.colour(255, 255, 255);
        check.due("best(4)", x.best(4), 15 << 16);
        check.due("best(2)", x.best(2), 1 << 17 | 1 << 16);
        x.eye(0, 12, 0);
        check.due("none COUNTS: best(4)", x.best(4), 15);
    }

    private static void mistaken() {
        Hues x = Hues.reds(200, 100, 101, 103);
        check.due("empty", x.mistaken(0, 9999), 0);
        x.fills(4);
        check.due("below, not at", x.mistaken(0, 1), 0);
        check.due("one", x.mistaken(0, 2), 1);
        check.due("one", x.mistaken(0, 4), 1);
        check.due("two", x.mistaken(0, 5), 2);
        check.due("three", x.mistaken(0, 10), 3);
        check.due("v 0", x.mistaken(3, 0), 0);
        x.eye(3, 0, 0);
        check.due("an EYE that sees nothing of R, and does not COUNT", x.mistaken(3, 1), 6);
        check.due("v 0", x.mistaken(3, 0), 0);
        check.refused("e", x, HuesApart.BAD, y -> y.mistaken(4, 0));
        check.refused("e", x, HuesApart.BAD, y -> y.mistaken(-1, 0));
        check.refused("v", x, HuesApart.BAD, y -> y.mistaken(0, 10000));
        check.refused("v", x, HuesApart.BAD, y -> y.mistaken(0, -1));
    }

    private static void count() {
        Hues x = Hues.reds(0, 100, 200);
        x.fixes(2, 1);
        x.fixes(0, 1);
        x.sets(0, 20);
        x.fills(2);
        x.eye(3, 12, 1);
        x.eye(0, 12, 0);
        x.eye(1, 12, 1);
        x.ground(7, 8, 9);
        int[] want = {3, 2, 5, 2, 10, 7, 8, 9};
        for (int what = 0; what < 8; what++) {
            check.due("count(" + what + ")", x.count(what), want[what]);
        }
        check.refused("what", x, HuesApart.BAD, y -> y.count(8));
        check.refused("what", x, HuesApart.BAD, y -> y.count(-1));
    }
}
