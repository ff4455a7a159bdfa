/** The edges of LEAST, nearest, BEST and MISTAKEN (document: Terms 2; promises 17 to 20). */
public final class BestEdgeTest {
    private static final Check check = new Check("BestEdgeTest");

    public static void main(String[] args) {
        leastOfFewerThanTwo();
        leastOfUnlikeNumbers();
        leastOfEveryPair();
        nearestOfFewerThanTwo();
        nearestTheFirstPlaceThenTheOther();
        bestOfOneToFour();
        bestOfAsManyAsThereAre();
        bestHasAllFixedOnes();
        bestHasNoMoreFixedOnesThanN();
        bestHasOthersThatFit();
        bestOfLikeOnesTheLeastAsBits();
        bestIsGreaterByOneStepOfAFloat();
        bestOfTwenty();
        bestChangesNothing();
        mistakenBelowV();
        mistakenBelowVAsAFloat();
        mistakenAtTheEndsOfV();
        mistakenCountsAPairOnce();
        mistakenByAnEyeThatDoesNotCount();
        check.end();
    }

    private static void leastOfFewerThanTwo() {
        Hues x = Hues.reds(3, 9);
        check.due("none: least()", x.least(), 0);
        x.fills(1);
        check.due("one: least()", x.least(), 0);
        x.fills(2);
        check.dueFloat("two: least()", x.least(), 36f);
    }

    /** Unlike ones are those with unlike numbers: two of like R, G, B are 0f APART. */
    private static void leastOfUnlikeNumbers() {
        Hues x = Hues.reds(9, 9);
        x.fills(2);
        check.due("two like ones", x.least(), 0);
        check.due("two like ones", x.nearest(), 1);
        x.paints(1, 9, 0, 1);
        check.dueFloat("one step of B", x.least(), 1f);
    }

    private static void leastOfEveryPair() {
        for (int i = 0; i < 8; i++) {
            for (int j = i + 1; j < 8; j++) {
                Hues x = Hues.reds(0, 30, 60, 90, 120, 150, 180, 210);
                x.choose(0, 1, 2, 3, 4, 5, 6, 7);
                x.paints(j, 30 * i + 7, 0, 0);
                check.dueFloat("places " + i + " and " + j, x.least(), 49f);
                check.due("places " + i + " and " + j, x.nearest(), 10 * i + j);
            }
        }
    }

    private static void nearestOfFewerThanTwo() {
        Hues x = Hues.reds(3, 9);
        check.due("none", check.notRefused("none", x, y -> y.nearest()), HuesApart.NONE);
        x.fills(1);
        check.due("one", check.notRefused("one", x, y -> y.nearest()), HuesApart.NONE);
        x.fills(2);
        check.due("two", check.notRefused("two", x, y -> y.nearest()), 1);
    }

    private static void nearestTheFirstPlaceThenTheOther() {
        Hues x = Hues.reds(0, 100, 110, 10);
        x.choose(0, 1, 2, 3);
        check.due("0, 3 and 1, 2 are like: the first i", x.nearest(), 3);
        x = Hues.reds(10, 200, 0, 20);
        x.choose(0, 1, 2, 3);
        check.due("0, 2 and 0, 3 are like: the first j", x.nearest(), 2);
        x = Hues.reds(100, 0, 10, 20);
        x.choose(0, 1, 2, 3);
        check.due("1, 2 and 2, 3 are like: the first i", x.nearest(), 12);
        x = Hues.reds(200, 20, 10, 0);
        x.fills(4);
        check.dueRow("by its places, not by numbers", x, 0, 3, 1, 2);
        check.due("places 1, 3 and 2, 3 are like", x.nearest(), 13);
    }

    private static void bestOfOneToFour() {
        Hues x = Hues.reds(120, 0, 130, 255, 60, 110);
        check.due("of 1", x.best(1), 1);
        check.due("of 2", x.best(2), 1 << 1 | 1 << 3);
        check.due("of 3", x.best(3), 1 << 1 | 1 << 2 | 1 << 3);
        check.due("of 4", x.best(4), 1 << 1 | 1 << 3 | 1 << 4 | 1 << 0);
    }

    private static void bestOfAsManyAsThereAre() {
        for (int n = 1; n <= 4; n++) {
            Hues x = new Hues();
            for (int i = 0; i < n - 1; i++) {
                x.colour(40 * i, 0, 0);
            }
            int of = n;
            String what = "best(" + n + ")";
            check.due(what + " of too few", check.notRefused(what, x, y -> y.best(of)), HuesApart.NONE);
            x.colour(255, 0, 0);
            check.due(what + " of as many", check.notRefused(what, x, y -> y.best(of)), (1 << n) - 1);
        }
    }

    private static void bestHasAllFixedOnes() {
        Hues x = Hues.reds(120, 0, 130, 255, 60, 110);
        x.fixes(5, 1);
        check.due("of 1", x.best(1), 1 << 5);
        check.due("of 2", x.best(2), 1 << 5 | 1 << 3);
        x.fixes(0, 1);
        check.due("of 2", x.best(2), 1 << 5 | 1);
        check.due("of 3: LEAST is that of the FIXED ones", x.best(3), 1 << 5 | 1 | 1 << 1);
    }

    private static void bestHasNoMoreFixedOnesThanN() {
        for (int n = 1; n <= 4; n++) {
            Hues x = Hues.reds(10, 20, 30, 40, 50);
            for (int i = 1; i <= n; i++) {
                x.fixes(i, 1);
            }
            int of = n;
            check.due("n FIXED", x.best(n), (1 << n) - 1 << 1);
            x.fixes(0, 1);
            check.due("more than n FIXED", check.notRefused("best", x, y -> y.best(of)), HuesApart.NONE);
        }
    }

    private static void bestHasOthersThatFit() {
        Hues x = Hues.reds(0, 100, 200, 255);
        x.sets(0, 29);
        check.due("LIGHT of the second", x.of(1, 4), 1);
        check.due("three FIT: of 3", x.best(3), 14);
        check.due("three FIT: of 4", x.best(4), HuesApart.NONE);
        x.sets(0, 30);
        check.due("two FIT: of 2", x.best(2), 12);
        check.due("two FIT: of 3", x.best(3), HuesApart.NONE);
        check.due("two FIT: of 1", x.best(1), 4);
        x.fixes(0, 1);
        check.due("a FIXED one need not FIT: of 1", x.best(1), 1);
        check.due("a FIXED one need not FIT: of 3", x.best(3), 13);
        x.fixes(0, 0);
        x.sets(0, 255);
        for (int n = 1; n <= 4; n++) {
            check.due("none FITS: of " + n, x.best(n), HuesApart.NONE);
        }
    }

    private static void bestOfLikeOnesTheLeastAsBits() {
        Hues x = Hues.with(0, 100, 0, 100, 0, 0, 100, 200, 0, 200, 100, 0);
        check.due("6 comes before 9", x.best(2), 6);
        check.due("7, 11, 13, 14 are like", x.best(3), 7);
        x = Hues.reds(1, 2, 3, 4, 5);
        x.eye(0, 12, 0);
        for (int n = 1; n <= 4; n++) {
            check.due("all are like: of " + n, x.best(n), (1 << n) - 1);
        }
        x.fixes(4, 1);
        for (int n = 1; n <= 4; n++) {
            check.due("all are like, one FIXED: of " + n, x.best(n), 16 + (1 << n - 1) - 1);
        }
    }

    private static void bestIsGreaterByOneStepOfAFloat() {
        Hues x = Hues.with(0, 0, 0, 255, 0, 0, 255, 1, 0);
        x.eye(0, 0, 300);
        x.eye(0, 9, 9);
        x.eye(0, 4, 66);
        check.due("one step", x.apart(0, 2) - x.apart(0, 1), 1);
        check.due("the greater one", x.best(2), 5);
        x.eye(0, 4, 0);
        check.due("now they are like", x.best(2), 3);
    }

    private static void bestOfTwenty() {
        for (int n = 1; n <= 4; n++) {
            Hues x = new Hues();
            for (int i = 0; i < 20; i++) {
                x.colour(100 + i, 100, 100);
            }
            for (int i = 20 - n; i < 20; i++) {
                x.paints(i, i == 19 ? 255 : 0, i == 18 ? 255 : 0, i == 17 ? 255 : 0);
            }
            int last = (1 << n) - 1 << 20 - n;
            check.due("the last set of all of " + n, x.best(n), n == 1 ? 1 : last);
            x.fixes(19, 1);
            check.due("the last COLOUR FIXED: of " + n, x.best(n), last);
        }
    }

    private static void bestChangesNothing() {
        for (Situation situation : Situation.values()) {
            for (int n = 1; n <= 4; n++) {
                Hues x = situation.make();
                x.best(n);
                check.like(situation + ": best(" + n + ")", x, situation.make());
            }
        }
    }

    private static void mistakenBelowV() {
        Hues x = Hues.reds(10, 20);
        x.fills(2);
        check.due("DISTANCE 100, v 99", x.mistaken(0, 99), 0);
        check.due("DISTANCE 100, v 100", x.mistaken(0, 100), 0);
        check.due("DISTANCE 100, v 101", x.mistaken(0, 101), 1);
        x.fills(1);
        check.due("one alone", x.mistaken(0, 9999), 0);
        check.due("none", new Hues().mistaken(0, 9999), 0);
    }

    private static Hues oneRow(int[] row, int... rgb) {
        Hues x = Hues.with(rgb);
        for (int k = 0; k < 3; k++) {
            x.eye(2, k, row[k]);
        }
        x.eye(2, 10, 0);
        x.eye(2, 11, 0);
        x.fills(2);
        return x;
    }

    private static void mistakenBelowVAsAFloat() {
        Hues x = oneRow(new int[] {145, 9, 31}, 9, 142, 198, 51, 238, 64);
        check.dueFloat("just 784", x.distance(2, 0, 1), 784f);
        check.due("just 784, v 784", x.mistaken(2, 784), 0);
        check.due("just 784, v 785", x.mistaken(2, 785), 1);
        x = oneRow(new int[] {75, 238, 72}, 222, 97, 129, 55, 180, 157);
        check.dueFloat("below 8547", x.distance(2, 0, 1), Math.nextDown(8547f));
        check.due("below 8547, v 8546", x.mistaken(2, 8546), 0);
        check.due("below 8547, v 8547", x.mistaken(2, 8547), 1);
        x = oneRow(new int[] {-12, 45, 70}, 148, 91, 21, 57, 12, 199);
        check.dueFloat("above 9994", x.distance(2, 0, 1), Math.nextUp(9994f));
        check.due("above 9994, v 9994", x.mistaken(2, 9994), 0);
        check.due("above 9994, v 9995", x.mistaken(2, 9995), 1);
    }

    private static void mistakenAtTheEndsOfV() {
        Hues like = Hues.reds(10, 10);
        like.fills(2);
        check.due("DISTANCE 0, v 0", like.mistaken(0, 0), 0);
        check.due("DISTANCE 0, v 1", like.mistaken(0, 1), 1);
        Hues x = Hues.with(0, 0, 0, 99, 14, 1);
        x.fills(2);
        check.due("DISTANCE 9998, v 9999", x.mistaken(0, 9999), 1);
        x.paints(1, 99, 9, 6);
        x.eye(0, 10, 2);
        check.dueFloat("9999", x.distance(0, 0, 1), 9999f);
        check.due("DISTANCE 9999, v 9999", x.mistaken(0, 9999), 0);
    }

    private static void mistakenCountsAPairOnce() {
        for (int n = 2; n <= 8; n++) {
            Hues x = Hues.reds(7, 7, 7, 7, 7, 7, 7, 7);
            x.fills(n);
            check.due("all pairs of " + n, x.mistaken(0, 1), n * (n - 1) / 2);
        }
        Hues x = Hues.reds(0, 100, 101, 255, 254);
        x.choose(0, 1, 3);
        check.due("those of THE PALETTE alone", x.mistaken(0, 9999), 0);
    }

    private static void mistakenByAnEyeThatDoesNotCount() {
        for (int e = 0; e < 4; e++) {
            Hues x = Hues.reds(10, 20);
            x.fills(2);
            x.eye(0, 12, 0);
            x.eye(e, 0, 50);
            for (int other = 0; other < 4; other++) {
                check.due("DISTANCE 25 or 100, v 26", x.mistaken(other, 26), other == e ? 1 : 0);
            }
        }
    }
}
