/** The edges of SWAPS (document: Terms 2; promise 15). */
public final class SwapsEdgeTest {
    private static final Check check = new Check("SwapsEdgeTest");

    public static void main(String[] args) {
        nothingInThePalette();
        oneInThePalette();
        allInThePalette();
        theFirstPlaceAndTheLeastNumberFirst();
        greaterNotLike();
        greaterByOneStepOfAFloat();
        fixedOnesKeepTheirPlaces();
        onlyThoseThatFitCome();
        oneThatDoesNotFitMayGo();
        aFixedOneOutsideMayCome();
        noEyeCounts();
        sixtyAtMost();
        sixtyAtMostByTheText();
        check.end();
    }

    private static void nothingInThePalette() {
        Hues x = Hues.reds(0, 100);
        check.due("empty", check.notRefused("empty", x, y -> y.swaps()), 0);
        check.dueRow("empty", x);
        check.due("a STATE", x.told(7), 3);
        check.due("no COLOURS", new Hues().swaps(), 0);
    }

    private static void oneInThePalette() {
        Hues x = Hues.reds(0, 100, 255);
        x.choose(1);
        check.due("LEAST of one is 0f whichever it is", x.swaps(), 0);
        check.dueRow("one", x, 1);
        x.choose(0, 1);
        check.due("of two: 2 to the first place, then 0 to the second", x.swaps(), 2);
        check.dueRow("two", x, 2, 0);
    }

    private static void allInThePalette() {
        Hues x = Hues.reds(0, 1, 2);
        x.choose(0, 1, 2);
        check.due("no other COLOUR", x.swaps(), 0);
        check.dueRow("no other COLOUR", x, 0, 1, 2);
    }

    /** Found by a search: in another order of places or numbers, or by the greatest gain, each ends otherwise. */
    private static void theFirstPlaceAndTheLeastNumberFirst() {
        Hues x = Hues.reds(90, 120, 50, 110, 10);
        x.choose(0, 1, 3);
        check.due("how many", x.swaps(), 2);
        check.dueRow("where they end", x, 4, 2, 3);
        x = Hues.reds(200, 130, 160, 40, 20);
        x.choose(0, 2);
        check.due("how many", x.swaps(), 3);
        check.dueRow("where they end", x, 4, 0);
        x = Hues.reds(10, 190, 100, 200, 220);
        x.choose(0, 2);
        check.due("how many", x.swaps(), 3);
        check.dueRow("where they end", x, 4, 0);
    }

    private static void greaterNotLike() {
        Hues x = Hues.reds(0, 50, 100);
        x.choose(0, 1);
        x.paints(2, 0, 0, 50);
        x.paints(1, 0, 50, 0);
        check.due("LEAST would be like or 5000", x.swaps(), 1);
        check.dueRow("the first by which it is greater", x, 2, 1);
        x = Hues.reds(50, 0, 100);
        x.choose(0, 1);
        check.due("one is like, the other greater", x.swaps(), 1);
        check.dueRow("the greater one", x, 2, 1);
        x = Hues.reds(0, 50, 0, 50);
        x.choose(0, 1);
        check.due("all others are like", x.swaps(), 0);
        check.dueRow("all others are like", x, 0, 1);
    }

    /** DISTANCES 2295 * 2295 and the next float above are had by a weight and a small step in another row. */
    private static void greaterByOneStepOfAFloat() {
        Hues x = Hues.with(0, 0, 0, 255, 0, 0, 255, 1, 0);
        x.eye(0, 0, 300);
        x.eye(0, 9, 9);
        x.eye(0, 4, 66);
        x.choose(0, 1);
        int before = x.least();
        check.due("one step", x.apart(0, 2) - before, 1);
        check.due("it is greater", x.swaps(), 1);
        check.dueRow("it is greater", x, 0, 2);
        x.eye(0, 4, 0);
        check.due("it is like now", x.swaps(), 0);
    }

    private static void fixedOnesKeepTheirPlaces() {
        for (int fixed = 0; fixed < 3; fixed++) {
            Hues x = Hues.reds(100, 110, 120, 0, 250);
            x.choose(0, 1, 2);
            x.fixes(fixed, 1);
            x.swaps();
            check.due("the FIXED one stays", x.palette(fixed), fixed);
            check.dueFloat("LEAST", x.least(), fixed == 0 ? 10000f : fixed == 1 ? 100f : 14400f);
        }
        Hues x = Hues.reds(100, 110, 120, 0, 250);
        x.choose(0, 1, 2);
        x.fixAll(1, 0, 1, 2);
        check.due("all FIXED", x.swaps(), 0);
        x.fixes(2, 0);
        check.due("all but one FIXED: LEAST is that of the FIXED ones", x.swaps(), 0);
    }

    private static void onlyThoseThatFitCome() {
        Hues x = Hues.reds(0, 50, 255);
        x.choose(0, 1);
        x.sets(1, 76);
        check.due("it does not FIT", x.of(2, 4), 0);
        check.due("none comes", x.swaps(), 0);
        check.dueRow("none comes", x, 0, 1);
        x.sets(1, 77);
        check.due("it FITS", x.of(2, 4), 1);
        check.due("it comes, then 0 again", x.swaps(), 2);
        check.dueRow("it comes, then 0 again", x, 2, 0);
    }

    private static void oneThatDoesNotFitMayGo() {
        Hues x = Hues.reds(0, 50, 255);
        x.choose(0, 1);
        x.sets(0, 20);
        check.due("one that FITS comes", x.swaps(), 1);
        check.dueRow("to the first place by which LEAST is greater", x, 2, 1);
        check.due("the one that is there need not FIT", x.of(1, 4), 0);
        check.due("it stays", x.swaps(), 0);
    }

    private static void aFixedOneOutsideMayCome() {
        Hues x = Hues.reds(0, 50, 255);
        x.choose(0, 1);
        x.fixes(2, 1);
        check.due("it comes to the first place, then 0 to the second", x.swaps(), 2);
        check.dueRow("it comes", x, 2, 0);
        x.paints(2, 20, 0, 0);
        check.due("it is FIXED there, so the other goes", x.swaps(), 1);
        check.dueRow("it is FIXED there", x, 2, 1);
    }

    private static void noEyeCounts() {
        Hues x = Hues.reds(0, 1, 255);
        x.choose(0, 1);
        x.eye(0, 12, 0);
        check.due("all are 0f APART", x.swaps(), 0);
        x.eye(3, 12, 1);
        check.due("another EYE COUNTS", x.swaps(), 2);
    }

    /** COLOURS found by a search, of which 63 swaps could be had one behind the other. */
    static Hues longWay() {
        Hues x = Hues.with(
            52, 219, 147, 30, 209, 109, 34, 255, 96, 146, 149, 176, 31, 167, 43, 61, 140, 8, 79, 165, 227,
            123, 191, 179, 86, 141, 26, 102, 208, 13, 141, 220, 188, 30, 42, 204, 29, 36, 195, 235, 40, 103,
            165, 251, 140, 165, 245, 123, 249, 154, 2, 109, 0, 130, 51, 181, 192, 169, 245, 99);
        int[] eye = {254, 154, 4, -207, 190, 203, -199, -134, -30, 5, 5, 8};
        for (int k = 0; k < 12; k++) {
            x.eye(0, k, eye[k]);
        }
        x.choose(0, 2, 4, 7);
        return x;
    }

    private static void sixtyAtMost() {
        Hues x = longWay();
        check.due("the first 60", x.swaps(), 60);
        check.due("the 61st to the 63rd", x.swaps(), 3);
        check.due("no more", x.swaps(), 0);
        x.back();
        x.back();
        x.back();
        check.dueRow("all 60 are one STATE", x, 0, 2, 4, 7);
    }

    private static void sixtyAtMostByTheText() {
        Hues x = longWay();
        check.due("s;", x.doText("s;"), 1);
        check.due("60 were done", x.swaps(), 3);
        x = longWay();
        check.due("s;s;", x.doText("s;s;"), 2);
        check.due("63 were done", x.swaps(), 0);
    }
}
