/** The edges of COLOURS and of FILLING (document: Terms 1 and 2; promises 2, 7, 14, 16, 21). */
public final class FillsEdgeTest {
    private static final Check check = new Check("FillsEdgeTest");

    public static void main(String[] args) {
        neverMoreThanTwentyColours();
        twentyFixedOnes();
        noColoursAtAll();
        noOneTwice();
        fixedOnesRising();
        fixedOnesNeedNotFit();
        fixedOnesGoBeforeTheLightest();
        theLightestIfNoneIsFixed();
        likeLightsTheLeastNumber();
        theLightestThatFits();
        noneFitsItStaysEmpty();
        fewerThanN();
        asManyFixedAsN();
        moreThanNFixed();
        someColourNotInItFits();
        theFarthestOfThoseInIt();
        likeOnesTheLeastNumber();
        likeOnesIfNoEyeCounts();
        filledAnew();
        staysUntilFilledOrSwapped();
        placesAndNone();
        check.end();
    }

    private static void neverMoreThanTwentyColours() {
        Hues x = new Hues();
        for (int i = 0; i < 19; i++) {
            x.colour(i, i, i);
        }
        check.due("the 20th", check.notRefused("the 20th", x, y -> y.colour(1, 2, 3)), 19);
        check.due("COLOURS", x.count(0), 20);
        check.refused("the 21st", x, HuesApart.FULL, y -> y.colour(1, 2, 3));
        check.due("COLOURS", x.count(0), 20);
        check.refusedIn(Situation.CROWDED, "the 21st", HuesApart.FULL, y -> y.colour(0, 0, 0));
        check.refusedIn(Situation.CROWDED, "the 21st", HuesApart.FULL, y -> y.colour(255, 255, 255));
        x.back();
        check.due("one is back: room for one", check.notRefused("one is back", x, y -> y.colour(9, 9, 9)), 19);
        check.refused("and for no more", x, HuesApart.FULL, y -> y.colour(9, 9, 9));
    }

    private static void twentyFixedOnes() {
        Hues x = new Hues();
        for (int i = 0; i < 20; i++) {
            x.colour(i, i, i);
        }
        check.due("none at first", x.count(2), 0);
        for (int i = 0; i < 20; i++) {
            check.due("how many are FIXED then", x.fixes(i, 1), i + 1);
            check.due("it is FIXED", x.of(i, 3), 1);
        }
        check.due("all bits", x.count(2), (1 << 20) - 1);
        check.due("FIXED already", x.fixes(19, 1), 20);
        for (int i = 19; i >= 0; i--) {
            check.due("how many are FIXED then", x.fixes(i, 0), i);
            check.due("it is not FIXED", x.of(i, 3), 0);
        }
        check.due("not FIXED already", x.fixes(19, 0), 0);
    }

    private static void noColoursAtAll() {
        Hues x = new Hues();
        for (int n = 1; n <= 8; n++) {
            check.due("fills(" + n + ") without COLOURS", x.fills(n), 0);
        }
        check.dueRow("without COLOURS", x);
    }

    private static void noOneTwice() {
        Hues x = Hues.reds(7, 7, 7, 7, 7, 7, 7, 7);
        check.due("eight like ones", x.fills(8), 8);
        check.dueRow("eight like ones", x, 0, 1, 2, 3, 4, 5, 6, 7);
        x = Hues.reds(7, 7, 7, 7, 7);
        x.fixAll(1, 3, 1);
        check.due("five like ones", x.fills(8), 5);
        check.dueRow("FIXED ones do not come again", x, 1, 3, 0, 2, 4);
    }

    private static void fixedOnesRising() {
        Hues x = Hues.reds(10, 240, 30, 200, 50);
        x.fixAll(1, 4, 0, 2);
        x.fills(3);
        check.dueRow("rising", x, 0, 2, 4);
    }

    private static void fixedOnesNeedNotFit() {
        Hues x = Hues.reds(10, 240, 30, 200);
        x.fixAll(1, 2, 0);
        x.sets(0, 50);
        check.due("they do not FIT", x.of(0, 4) + x.of(2, 4), 0);
        check.due("how many FIT", x.count(1), 2);
        x.fills(2);
        check.dueRow("they do not FIT", x, 0, 2);
        x.fills(3);
        check.dueRow("one that FITS behind them", x, 0, 2, 1);
        x.sets(0, 255);
        check.due("no other FITS", x.fills(8), 2);
    }

    private static void fixedOnesGoBeforeTheLightest() {
        Hues x = Hues.reds(100, 255, 0);
        x.fixes(0, 1);
        x.fills(1);
        check.dueRow("one FIXED: it alone", x, 0);
        x.fixes(0, 0);
        x.fills(1);
        check.dueRow("none FIXED: the lightest", x, 1);
    }

    private static void theLightestIfNoneIsFixed() {
        Hues x = Hues.with(255, 0, 0, 0, 131, 0, 0, 130, 0, 255, 0, 3);
        x.fills(1);
        check.dueRow("LIGHT, not R", x, 1);
        x.paints(3, 255, 0, 7);
        x.fills(1);
        check.dueRow("LIGHT with B", x, 3);
    }

    /** The first two are like as floats, though not as sums; the next two are like as sums, not as floats. */
    private static void likeLightsTheLeastNumber() {
        Hues x = Hues.with(0, 100, 116, 3, 121, 0);
        check.due("like LIGHTS", x.light(0), x.light(1));
        x.fills(1);
        check.dueRow("the least number", x, 0);
        x = Hues.with(3, 121, 0, 0, 100, 116);
        x.fills(1);
        check.dueRow("the least number, the other way round", x, 0);
        x = Hues.with(0, 132, 2, 1, 101, 159);
        check.due("one step of a float", x.light(1) - x.light(0), 1);
        x.fills(1);
        check.dueRow("the greater one", x, 1);
        x = Hues.with(1, 1, 1, 9, 9, 9, 2, 2, 2, 9, 9, 9, 9, 9, 9);
        x.fills(1);
        check.dueRow("the first of three like ones", x, 1);
    }

    private static void theLightestThatFits() {
        Hues x = Hues.reds(50, 250, 200, 150);
        x.sets(1, 74);
        x.fills(1);
        check.dueRow("the lightest does not FIT", x, 2);
        x.fills(8);
        check.dueRow("nor comes it later", x, 2, 0, 3);
    }

    private static void noneFitsItStaysEmpty() {
        Hues x = Hues.reds(100, 255);
        x.fills(2);
        x.sets(0, 76);
        check.due("one FITS", x.fills(2), 1);
        check.dueRow("one FITS", x, 1);
        x.sets(0, 77);
        check.due("none FITS", x.fills(2), 0);
        check.dueRow("none FITS", x);
        check.due("a STATE nevertheless", x.back(), 4);
        check.dueRow("back", x, 1);
    }

    private static void fewerThanN() {
        for (int n = 1; n <= 8; n++) {
            Hues x = new Hues();
            for (int i = 0; i < 20; i++) {
                x.colour(12 * i, 0, 0);
            }
            check.due("fills(" + n + ") of 20", x.fills(n), n);
            check.due("the last place", x.palette(n - 1) >= 0 ? 1 : 0, 1);
            check.due("behind the last place", x.palette(n), HuesApart.NONE);
        }
    }

    private static void asManyFixedAsN() {
        for (int n = 1; n <= 8; n++) {
            Hues x = Hues.reds(1, 3, 5, 7, 9, 11, 13, 15, 17, 19);
            for (int i = 1; i < n; i++) {
                x.fixes(i, 1);
            }
            check.due("one fewer FIXED than n", x.fills(n), n);
            check.due("one that is not FIXED comes last", x.palette(n - 1), 9);
            x.fixes(n, 1);
            check.due("as many FIXED as n", check.notRefused("fills(" + n + ")", x, y -> y.fills(y.count(3))), n);
            for (int place = 0; place < n; place++) {
                check.due("FIXED ones alone", x.palette(place), place + 1);
            }
        }
    }

    private static void moreThanNFixed() {
        for (int n = 1; n <= 8; n++) {
            Hues x = Hues.reds(1, 3, 5, 7, 9, 11, 13, 15, 17, 19);
            int most = n;
            x.fills(2);
            for (int i = 0; i <= n; i++) {
                x.fixes(i, 1);
            }
            check.refused("one more FIXED than n " + n, x, HuesApart.NO, y -> y.fills(most));
            check.dueRow("as it was", x, 9, 0);
        }
        check.refusedIn(Situation.BUSY, "two FIXED, n 1", HuesApart.NO, x -> x.fills(1));
        check.refusedIn(Situation.CROWDED, "nine FIXED, n 8", HuesApart.NO, x -> x.fills(8));
        check.refusedIn(Situation.CROWDED, "nine FIXED, n 1", HuesApart.NO, x -> x.fills(1));
        check.due("two FIXED, n 2", Situation.BUSY.make().fills(2), 2);
    }

    private static void someColourNotInItFits() {
        Hues x = Hues.reds(10, 240, 30, 200, 50);
        x.sets(0, 15);
        check.due("how many FIT", x.count(1), 2);
        x.sets(0, 14);
        check.due("how many FIT", x.count(1), 3);
        check.due("fewer than those that FIT", x.fills(2), 2);
        check.due("as many as FIT", x.fills(3), 3);
        check.due("more than FIT", x.fills(4), 3);
        check.due("many more than FIT", x.fills(8), 3);
        check.dueRow("those that FIT", x, 1, 4, 3);
    }

    private static void theFarthestOfThoseInIt() {
        Hues x = Hues.reds(255, 0, 130, 60, 240);
        x.fills(5);
        check.dueRow("the nearest one in it tells", x, 0, 1, 2, 3, 4);
    }

    private static void likeOnesTheLeastNumber() {
        Hues x = Hues.reds(100, 255, 0, 155, 55, 200);
        x.fixes(0, 1);
        x.fixes(1, 1);
        x.fills(3);
        check.dueRow("the farthest", x, 0, 1, 2);
        x = Hues.reds(50, 150, 100, 100, 50, 150);
        x.fixes(2, 1);
        x.fills(6);
        check.dueRow("of like ones the least number", x, 2, 0, 1, 3, 4, 5);
    }

    private static void likeOnesIfNoEyeCounts() {
        Hues x = Hues.reds(10, 20, 250, 100, 0);
        x.eye(0, 12, 0);
        x.fills(5);
        check.dueRow("the lightest, then by number", x, 2, 0, 1, 3, 4);
    }

    private static void filledAnew() {
        Hues x = Hues.reds(10, 20, 250, 100, 0);
        x.fixes(0, 1);
        check.due("five", x.fills(8), 5);
        check.due("one", x.fills(1), 1);
        check.dueRow("one", x, 0);
        x.fixes(0, 0);
        check.dueRow("not FIXED any more: it stays", x, 0);
        x.fills(1);
        check.dueRow("filled anew", x, 2);
    }

    private static void staysUntilFilledOrSwapped() {
        Hues x = Hues.reds(10, 20, 250, 100);
        x.fills(2);
        x.paints(2, 0, 0, 0);
        x.paints(3, 255, 255, 255);
        x.sets(1, 0);
        x.sets(2, 255);
        x.ground(0, 0, 0);
        x.fixes(3, 1);
        x.eye(0, 12, 0);
        x.colour(255, 0, 255);
        check.dueRow("as it was filled", x, 2, 0);
    }

    private static void placesAndNone() {
        Hues x = Hues.reds(10, 20, 30, 40, 50, 60, 70, 80, 90);
        check.due("none at first", x.palette(0), HuesApart.NONE);
        check.due("of: none at first", x.of(0, 5), HuesApart.NONE);
        for (int i = 0; i < 8; i++) {
            x.fixes(i, 1);
        }
        x.fills(8);
        check.due("the first place", x.of(0, 5), 0);
        check.due("the last place", x.of(7, 5), 7);
        check.due("the one that is not in it", x.of(8, 5), HuesApart.NONE);
        check.due("palette(7)", x.palette(7), 7);
        check.due("palette(8)", check.notRefused("palette(8)", x, y -> y.palette(8)), HuesApart.NONE);
        check.due("how many", x.count(3), 8);
    }
}
