/**
 * The edges of what is seen (document: Terms 1; promises 8 to 13): floats step by step, the greatest and
 * the least of them, APART "0f, if none does", and each limit of FITS on both sides. The numbers below
 * were found by a search: reckoned in another order, or in doubles, each gives other bits.
 */
public final class SeenEdgeTest {
    private static final Check check = new Check("SeenEdgeTest");

    public static void main(String[] args) {
        lightStepByStep();
        lightOfTheEnds();
        seenStepByStep();
        seenOfTheEnds();
        seenAsMinusZero();
        distanceStepByStep();
        distanceOfTheEnds();
        weightsOfZero();
        apartIsTheLeastOfThoseThatCount();
        apartIsZeroIfNoneCounts();
        allFitAtFirst();
        lightIsLowOrMore();
        lightIsHighOrLess();
        lowAndHighAtTheirEnds();
        lowAboveHigh();
        gapOrMoreAboveTheGround();
        gapOrMoreBelowTheGround();
        gapIsReckonedAsAFloat();
        gapAtItsEnds();
        fitsNeedsAllThree();
        fitsFollowsEachChange();
        distancesFollowEachChange();
        check.end();
    }

    private static void lightStepByStep() {
        check.due("light", Hues.with(1, 123, 156).light(0), 1119129962);
        check.due("light", Hues.with(1, 123, 233).light(0), 1120280512);
        check.due("light", Hues.with(1, 168, 200).light(0), 1123249686);
        check.due("light", Hues.with(1, 183, 156).light(0), 1123746318);
        check.dueFloat("light just below a whole number", Hues.with(148, 148, 148).light(0), Math.nextDown(148f));
        check.dueFloat("light just above a whole number", Hues.with(120, 120, 120).light(0), Math.nextUp(120f));
        check.dueFloat("light at a whole number", Hues.with(0, 232, 244).light(0), 164f);
    }

    private static void lightOfTheEnds() {
        check.due("black", Hues.with(0, 0, 0).light(0), 0);
        check.dueFloat("white", Hues.with(255, 255, 255).light(0), 255f);
        check.dueFloat("R alone", Hues.with(255, 0, 0).light(0), 0.299f * 255f);
        check.dueFloat("G alone", Hues.with(0, 255, 0).light(0), 0.587f * 255f);
        check.dueFloat("B alone", Hues.with(0, 0, 255).light(0), 0.114f * 255f);
        check.dueFloat("the least R", Hues.with(1, 0, 0).light(0), 0.299f);
    }

    private static void table(Hues x, int e, int... t) {
        for (int k = 0; k < t.length; k++) {
            x.eye(e, k, t[k]);
        }
    }

    private static void seenStepByStep() {
        int[][] tables = {{-7, 112, 60}, {-160, 220, -106}, {-138, 277, -171}, {17, 11, 144}, {-268, 244, -64}};
        int[][] colours = {{164, 10, 1}, {138, 152, 113}, {2, 126, 124}, {140, 53, 249}, {171, 201, 66}};
        int[] bits = {1050924788, -1060781424, 1124481104, 1136793683, -1054783576};
        for (int k = 0; k < bits.length; k++) {
            int row = k % 3;
            Hues x = Hues.with(colours[k]);
            for (int column = 0; column < 3; column++) {
                x.eye(k % 4, 3 * row + column, tables[k][column]);
            }
            check.due("seen " + k, x.seen(k % 4, 0, row), bits[k]);
        }
    }

    private static void seenOfTheEnds() {
        Hues x = Hues.with(255, 255, 255, 0, 0, 0, 1, 0, 0);
        table(x, 3, 300, 300, 300, -300, -300, -300, 1, 0, -300);
        check.dueFloat("the greatest", x.seen(3, 0, 0), 2295f);
        check.dueFloat("the least", x.seen(3, 0, 1), -2295f);
        check.due("black", x.seen(3, 1, 0), 0);
        check.dueFloat("the nearest to 0", x.seen(3, 2, 2), 0.01f);
        check.dueFloat("R in row 0", x.seen(3, 2, 0), 3f);
        check.dueFloat("R in row 1", x.seen(3, 2, 1), -3f);
    }

    /** A sum of three products of which each is -0f is -0f; if one is not, it is another number. */
    private static void seenAsMinusZero() {
        for (int e = 0; e < 4; e++) {
            for (int row = 0; row < 3; row++) {
                Hues x = Hues.with(9, 9, 9, 0, 0, 0, 1, 0, 0, 0, 1, 0, 0, 0, 1);
                for (int column = 0; column < 3; column++) {
                    x.eye(e, 3 * row + column, -1);
                }
                for (int other = 0; other < 12; other++) {
                    int due = other == 3 * e + row ? 1 << 31 : 0;
                    check.due("EYE " + e + ", row " + row, x.seen(other / 3, 1, other % 3), due);
                }
                for (int i = 2; i < 5; i++) {
                    check.dueFloat("not black", x.seen(e, i, row), -0.01f);
                }
                for (int column = 0; column < 3; column++) {
                    x.eye(e, 3 * row + column, column == 1 ? 1 : 0);
                    check.due("column " + column + " is not below 0", x.seen(e, 1, row), 0);
                    x.eye(e, 3 * row + column, -300);
                    check.due("column " + column + " is below 0", x.seen(e, 1, row), 1 << 31);
                }
            }
        }
    }

    private static void distanceStepByStep() {
        int[][] tables = {
            {178, -288, -3, -95, 279, -80, -117, 194, -174, 5, 7, 6},
            {-21, -244, 78, -270, -43, 263, -158, 137, 249, 9, 2, 6},
            {149, 258, -153, 113, -219, 241, -199, -94, 72, 3, 5, 6}};
        int[][] pairs = {
            {106, 100, 80, 34, 35, 164}, {93, 10, 245, 206, 233, 42}, {41, 85, 47, 194, 254, 225}};
        int[] bits = {1222527867, 1256221469, 1235958897};
        for (int e = 0; e < 3; e++) {
            Hues x = Hues.with(pairs[e]);
            table(x, e, tables[e]);
            check.due("distance " + e, x.distance(e, 0, 1), bits[e]);
            check.due("distance the other way " + e, x.distance(e, 1, 0), bits[e]);
        }
    }

    private static void distanceOfTheEnds() {
        Hues x = Hues.with(255, 255, 255, 0, 0, 0, 0, 0, 1);
        table(x, 1, 300, 300, 300, 300, 300, 300, -300, -300, -300, 9, 9, 9);
        float row = 9f * (2295f * 2295f);
        check.dueFloat("the greatest", x.distance(1, 0, 1), (row + row) + row);
        check.due("of one and itself", x.distance(1, 0, 0), 0);
        check.dueFloat("B in all rows", x.distance(1, 2, 1), (81f + 81f) + 81f);
    }

    private static void weightsOfZero() {
        Hues x = Hues.with(10, 20, 30, 0, 0, 0);
        float[] want = {500f + 900f - 100f, 100f + 900f, 500f};
        for (int k = 0; k < 3; k++) {
            x.eye(0, 9 + k, 0);
            check.dueFloat("row " + k + " without WEIGHT", x.distance(0, 0, 1), want[k]);
            x.eye(0, 9 + k, 1);
        }
        for (int k = 9; k < 12; k++) {
            x.eye(0, k, 0);
        }
        check.due("no WEIGHT at all", x.distance(0, 0, 1), 0);
    }

    private static void apartIsTheLeastOfThoseThatCount() {
        for (int nearest = 0; nearest < 4; nearest++) {
            Hues x = Hues.with(10, 0, 0, 0, 0, 0);
            for (int e = 0; e < 4; e++) {
                x.eye(e, 9, e == nearest ? 2 : 5 + e);
                x.eye(e, 12, 1);
            }
            check.dueFloat("EYE " + nearest + " is the nearest", x.apart(0, 1), 200f);
            x.eye(nearest, 12, 0);
            check.dueFloat("it does not COUNT", x.apart(0, 1), nearest == 0 ? 600f : 500f);
        }
    }

    private static void apartIsZeroIfNoneCounts() {
        for (int e = 0; e < 4; e++) {
            Hues x = Hues.with(10, 0, 0, 0, 0, 0);
            x.fills(2);
            x.eye(0, 12, 0);
            check.due("none COUNTS: apart", x.apart(0, 1), 0);
            check.due("none COUNTS: least", x.least(), 0);
            check.due("none COUNTS: count(4)", x.count(4), 0);
            x.eye(e, 12, 1);
            check.dueFloat("one COUNTS: apart", x.apart(0, 1), 100f);
            check.dueFloat("one COUNTS: least", x.least(), 100f);
            check.due("one COUNTS: count(4)", x.count(4), 1 << e);
        }
    }

    private static void allFitAtFirst() {
        Hues x = Hues.with(0, 0, 0, 255, 255, 255, 255, 0, 255);
        check.due("all FIT at first", x.count(1), 3);
        for (int i = 0; i < 3; i++) {
            check.due("it FITS at first", x.of(i, 4), 1);
        }
    }

    private static int fitsBySet(int r, int g, int b, int what, int v) {
        Hues x = Hues.with(r, g, b);
        x.sets(what, v);
        check.due("how many FIT", x.count(1), x.of(0, 4));
        return x.of(0, 4);
    }

    private static void lightIsLowOrMore() {
        check.due("LIGHT 164, LOW 163", fitsBySet(0, 232, 244, 0, 163), 1);
        check.due("LIGHT 164, LOW 164", fitsBySet(0, 232, 244, 0, 164), 1);
        check.due("LIGHT 164, LOW 165", fitsBySet(0, 232, 244, 0, 165), 0);
        check.due("LIGHT just below 148, LOW 148", fitsBySet(148, 148, 148, 0, 148), 0);
        check.due("LIGHT just below 148, LOW 147", fitsBySet(148, 148, 148, 0, 147), 1);
        check.due("LIGHT just above 120, LOW 120", fitsBySet(120, 120, 120, 0, 120), 1);
        check.due("LIGHT just above 120, LOW 121", fitsBySet(120, 120, 120, 0, 121), 0);
    }

    private static void lightIsHighOrLess() {
        check.due("LIGHT 164, HIGH 165", fitsBySet(0, 232, 244, 1, 165), 1);
        check.due("LIGHT 164, HIGH 164", fitsBySet(0, 232, 244, 1, 164), 1);
        check.due("LIGHT 164, HIGH 163", fitsBySet(0, 232, 244, 1, 163), 0);
        check.due("LIGHT just below 148, HIGH 148", fitsBySet(148, 148, 148, 1, 148), 1);
        check.due("LIGHT just below 148, HIGH 147", fitsBySet(148, 148, 148, 1, 147), 0);
        check.due("LIGHT just above 120, HIGH 120", fitsBySet(120, 120, 120, 1, 120), 0);
        check.due("LIGHT just above 120, HIGH 121", fitsBySet(120, 120, 120, 1, 121), 1);
    }

    private static void lowAndHighAtTheirEnds() {
        check.due("black, LOW 0", fitsBySet(0, 0, 0, 0, 0), 1);
        check.due("black, LOW 1", fitsBySet(0, 0, 0, 0, 1), 0);
        check.due("black, HIGH 0", fitsBySet(0, 0, 0, 1, 0), 1);
        check.due("nearly black, HIGH 0", fitsBySet(0, 0, 1, 1, 0), 0);
        check.due("white, LOW 255", fitsBySet(255, 255, 255, 0, 255), 1);
        check.due("nearly white, LOW 255", fitsBySet(255, 255, 254, 0, 255), 0);
        check.due("white, HIGH 254", fitsBySet(255, 255, 255, 1, 254), 0);
    }

    private static void lowAboveHigh() {
        Hues x = Hues.with(0, 232, 244);
        x.sets(0, 164);
        x.sets(1, 164);
        check.due("LOW and HIGH are LIGHT", x.of(0, 4), 1);
        x.sets(0, 165);
        check.due("LOW above HIGH: LIGHT is HIGH", x.of(0, 4), 0);
        x.sets(0, 164);
        x.sets(1, 163);
        check.due("LOW above HIGH: LIGHT is LOW", x.of(0, 4), 0);
    }

    private static int fitsByGap(int[] rgb, int[] ground, int gap) {
        Hues x = Hues.with(rgb);
        x.ground(ground[0], ground[1], ground[2]);
        x.sets(2, gap);
        return x.of(0, 4);
    }

    private static void gapOrMoreAboveTheGround() {
        int[] own = {160, 7, 234};
        int[] ground = {18, 27, 21};
        check.due("55 above, GAP 54", fitsByGap(own, ground, 54), 1);
        check.due("55 above, GAP 55", fitsByGap(own, ground, 55), 1);
        check.due("55 above, GAP 56", fitsByGap(own, ground, 56), 0);
    }

    private static void gapOrMoreBelowTheGround() {
        int[] own = {29, 23, 27};
        int[] ground = {195, 1, 47};
        check.due("39 below, GAP 38", fitsByGap(own, ground, 38), 1);
        check.due("39 below, GAP 39", fitsByGap(own, ground, 39), 1);
        check.due("39 below, GAP 40", fitsByGap(own, ground, 40), 0);
    }

    /** The float nearest to what LIGHT is less the other one can be a whole number that it does not reach. */
    private static void gapIsReckonedAsAFloat() {
        int[] own = {160, 194, 32};
        int[] ground = {0, 2, 28};
        check.due("161 as a float, GAP 161", fitsByGap(own, ground, 161), 1);
        check.due("161 as a float, GAP 162", fitsByGap(own, ground, 162), 0);
        check.due("161 as a float below, GAP 161", fitsByGap(ground, own, 161), 1);
        int[] less = {224, 110, 55};
        int[] lessGround = {5, 17, 3};
        check.due("just below 126, GAP 126", fitsByGap(less, lessGround, 126), 0);
        check.due("just below 126, GAP 125", fitsByGap(less, lessGround, 125), 1);
        check.due("just below 126 below, GAP 126", fitsByGap(lessGround, less, 126), 0);
    }

    private static void gapAtItsEnds() {
        int[] black = {0, 0, 0};
        int[] white = {255, 255, 255};
        int[] nearlyWhite = {255, 255, 254};
        int[] nearlyBlack = {0, 0, 1};
        check.due("just above THE GROUND, GAP 0", fitsByGap(nearlyBlack, black, 0), 1);
        check.due("just above THE GROUND, GAP 1", fitsByGap(nearlyBlack, black, 1), 0);
        check.due("just below THE GROUND, GAP 0", fitsByGap(black, nearlyBlack, 0), 1);
        check.due("just below THE GROUND, GAP 1", fitsByGap(black, nearlyBlack, 1), 0);
        check.due("like THE GROUND, GAP 0", fitsByGap(white, white, 0), 1);
        check.due("like THE GROUND, GAP 1", fitsByGap(white, white, 1), 0);
        check.due("black on white, GAP 255", fitsByGap(black, white, 255), 1);
        check.due("white on black, GAP 255", fitsByGap(white, black, 255), 1);
        check.due("nearly white on black, GAP 255", fitsByGap(nearlyWhite, black, 255), 0);
        check.due("nearly white on black, GAP 254", fitsByGap(nearlyWhite, black, 254), 1);
    }

    private static void fitsNeedsAllThree() {
        for (int wrong = 0; wrong < 4; wrong++) {
            Hues x = Hues.with(100, 100, 100);
            x.ground(0, 0, 0);
            x.sets(0, wrong == 0 ? 101 : 99);
            x.sets(1, wrong == 1 ? 99 : 101);
            x.sets(2, wrong == 2 ? 101 : 99);
            check.due("limit " + wrong + " is not kept", x.of(0, 4), wrong == 3 ? 1 : 0);
        }
    }

    /** Each getter is asked right behind the change, none before it that could have reckoned anew. */
    private static void fitsFollowsEachChange() {
        Hues x = Hues.with(100, 100, 100);
        x.sets(2, 50);
        check.due("GAP 50 on white", x.of(0, 4), 1);
        x.ground(90, 90, 90);
        check.due("another GROUND", x.of(0, 4), 0);
        x.paints(0, 10, 10, 10);
        check.due("other R, G, B", x.of(0, 4), 1);
        x.sets(0, 11);
        check.due("another LOW", x.count(1), 0);
        x.back();
        check.due("back", x.count(1), 1);
        x.fixes(0, 1);
        x.sets(2, 255);
        check.due("a FIXED one FITS no more than others", x.of(0, 4), 0);
        check.due("a FIXED one FITS no more than others", x.count(1), 0);
    }

    private static void distancesFollowEachChange() {
        Hues x = Hues.reds(0, 10, 30);
        x.choose(0, 1, 2);
        check.due("nearest()", x.nearest(), 1);
        x.paints(1, 25, 0, 0);
        check.due("nearest() behind paints()", x.nearest(), 12);
        x.back();
        check.due("nearest() behind back()", x.nearest(), 1);
        x.eye(0, 9, 2);
        check.dueFloat("least() behind eye()", x.least(), 200f);
        x.eye(0, 9, 3);
        check.dueFloat("apart() behind eye()", x.apart(0, 1), 300f);
        x.paints(1, 30, 0, 0);
        check.due("best() behind paints()", x.best(2), 3);
        x.paints(1, 29, 0, 0);
        check.due("best() behind paints()", x.best(2), 5);
        x.eye(0, 9, 1);
        check.due("mistaken() behind eye()", x.mistaken(0, 2), 1);
        x.paints(0, 30, 0, 0);
        check.due("mistaken() behind paints()", x.mistaken(0, 2), 3);
    }
}
