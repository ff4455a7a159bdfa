/**
 * The ranges of all numbers (document: Terms, and each BAD of promises 2 to 26), on both sides: the last
 * numbers that are taken, and the first that are not, which are refused and leave all as it was.
 */
public final class NumbersEdgeTest {
    private static final Check check = new Check("NumbersEdgeTest");
    /** Numbers that come back into a range, if a byte, a short, or an index of rows of 3, 13, 20 is cut off. */
    private static final int[] FAR_OFF = {
        Integer.MIN_VALUE, Integer.MIN_VALUE + 1, Integer.MAX_VALUE, -128, -256, 256, 65536, -65536, 1 << 30,
        1431655766, -1431655765, 330382100, -330382100, 214748365, -214748365};
    private static final int MANY = Integer.MAX_VALUE;

    /** A call of which one number is at stake. */
    private interface Asked {
        int of(Hues x, int v);
    }

    public static void main(String[] args) {
        colour();
        paints();
        ground();
        eye();
        sets();
        fixes();
        of();
        look();
        light();
        seen();
        distance();
        apart();
        fills();
        palette();
        best();
        mistaken();
        count();
        type();
        told();
        callsWithoutNumbers();
        howManyWereOther();
        numbersOfColoursGrowWithThem();
        numbersOfColoursGoBackWithThem();
        severalWrongNumbersCountOnce();
        answersBelowZeroThatRefuseNothing();
        check.end();
    }

    private static void range(String what, Situation situation, int low, int high, Asked asked) {
        taken(what, situation, low, asked);
        taken(what, situation, high, asked);
        notTaken(what, situation, low - 1, asked);
        if (high != MANY) {
            notTaken(what, situation, high + 1, asked);
        }
        for (int v : FAR_OFF) {
            if (v < low || v > high) {
                notTaken(what, situation, v, asked);
            }
        }
    }

    private static void taken(String what, Situation situation, int v, Asked asked) {
        check.notRefused(situation + ": " + what + " " + v + " is taken", situation.make(), x -> asked.of(x, v));
    }

    private static void notTaken(String what, Situation situation, int v, Asked asked) {
        check.refusedIn(situation, what + " " + v, HuesApart.BAD, x -> asked.of(x, v));
    }

    /** In each Situation that has COLOURS: a COLOUR's number is one of those that there are. */
    private static void colourRange(String what, Asked asked) {
        notTaken(what, Situation.NEW, 0, asked);
        range(what, Situation.BUSY, 0, Situation.BUSY_COLOURS - 1, asked);
        range(what, Situation.CROWDED, 0, 19, asked);
    }

    private static void everywhere(String what, int low, int high, Asked asked) {
        for (Situation situation : Situation.values()) {
            range(what, situation, low, high, asked);
        }
    }

    private static void colour() {
        for (Situation situation : new Situation[] {Situation.NEW, Situation.BUSY}) {
            range("colour: R", situation, 0, 255, (x, v) -> x.colour(v, 1, 2));
            range("colour: G", situation, 0, 255, (x, v) -> x.colour(1, v, 2));
            range("colour: B", situation, 0, 255, (x, v) -> x.colour(1, 2, v));
        }
        for (int v : new int[] {0, 255}) {
            Hues x = new Hues();
            x.colour(v, 7, 7);
            x.colour(7, v, 7);
            x.colour(7, 7, v);
            for (int k = 0; k < 3; k++) {
                check.due("colour: it becomes " + v, x.of(k, k), v);
                check.due("colour: the next one is as told", x.of(k, (k + 1) % 3), 7);
            }
        }
    }

    private static void paints() {
        colourRange("paints: i", (x, v) -> x.paints(v, 1, 2, 3));
        range("paints: R", Situation.BUSY, 0, 255, (x, v) -> x.paints(3, v, 1, 2));
        range("paints: G", Situation.BUSY, 0, 255, (x, v) -> x.paints(3, 1, v, 2));
        range("paints: B", Situation.BUSY, 0, 255, (x, v) -> x.paints(3, 1, 2, v));
        for (int v : new int[] {0, 255}) {
            Hues x = Situation.CROWDED.make();
            x.paints(0, v, 255 - v, v);
            x.paints(19, 255 - v, v, 255 - v);
            for (int what = 0; what < 3; what++) {
                check.due("paints: the first COLOUR", x.of(0, what), what == 1 ? 255 - v : v);
                check.due("paints: the last COLOUR", x.of(19, what), what == 1 ? v : 255 - v);
            }
        }
    }

    private static void ground() {
        everywhere("ground: R", 0, 255, (x, v) -> x.ground(v, 1, 2));
        everywhere("ground: G", 0, 255, (x, v) -> x.ground(1, v, 2));
        everywhere("ground: B", 0, 255, (x, v) -> x.ground(1, 2, v));
        Hues x = new Hues();
        for (int v : new int[] {0, 255}) {
            check.due("ground: three are other", x.ground(v, v, v), 3);
            for (int what = 5; what < 8; what++) {
                check.due("ground: it becomes " + v, x.count(what), v);
            }
        }
    }

    private static void eye() {
        everywhere("eye: e", 0, 3, (x, v) -> x.eye(v, 0, 1));
        everywhere("eye: k", 0, 12, (x, v) -> x.eye(0, v, 1));
        for (int e = 0; e < 4; e++) {
            for (int k = 0; k < 13; k++) {
                eyeNumber(e, k, k < 9 ? -300 : 0, k < 9 ? 300 : k < 12 ? 9 : 1);
            }
        }
    }

    private static void eyeNumber(int e, int k, int low, int high) {
        String what = "eye(" + e + ", " + k + ")";
        taken(what, Situation.BUSY, low, (x, v) -> x.eye(e, k, v));
        taken(what, Situation.BUSY, high, (x, v) -> x.eye(e, k, v));
        Hues x = new Hues();
        for (int v : new int[] {low - 1, high + 1, Integer.MIN_VALUE, Integer.MAX_VALUE}) {
            int before = x.look(e, k);
            check.refused(what + " " + v, x, HuesApart.BAD, y -> y.eye(e, k, v));
            check.due(what + " stays", x.look(e, k), before);
        }
        x.eye(e, k, low);
        check.due(what + " becomes the least", x.look(e, k), low);
        check.due(what + " was the least", x.eye(e, k, high), low);
        check.due(what + " becomes the greatest", x.look(e, k), high);
    }

    private static void sets() {
        everywhere("sets: what", 0, 2, (x, v) -> x.sets(v, 9));
        for (int what = 0; what < 3; what++) {
            int which = what;
            everywhere("sets: v of " + what, 0, 255, (x, v) -> x.sets(which, v));
            Hues x = new Hues();
            x.sets(what, 0);
            check.due("sets: it becomes 0", x.told(3 + what), 0);
            check.due("sets: it was 0", x.sets(what, 255), 0);
            check.due("sets: it becomes 255", x.told(3 + what), 255);
            check.due("sets: it was 255", x.sets(what, 1), 255);
        }
    }

    private static void fixes() {
        colourRange("fixes: i", (x, v) -> x.fixes(v, 1));
        colourRange("fixes: i", (x, v) -> x.fixes(v, 0));
        range("fixes: on", Situation.BUSY, 0, 1, (x, v) -> x.fixes(1, v));
        range("fixes: on", Situation.CROWDED, 0, 1, (x, v) -> x.fixes(19, v));
    }

    private static void of() {
        colourRange("of: i", (x, v) -> x.of(v, 0));
        colourRange("of: i", (x, v) -> x.of(v, 5));
        range("of: what", Situation.BUSY, 0, 5, (x, v) -> x.of(0, v));
        range("of: what", Situation.CROWDED, 0, 5, (x, v) -> x.of(19, v));
    }

    private static void look() {
        everywhere("look: e", 0, 3, (x, v) -> x.look(v, 12));
        everywhere("look: k", 0, 12, (x, v) -> x.look(3, v));
        everywhere("look: k", 0, 12, (x, v) -> x.look(0, v));
    }

    private static void light() {
        colourRange("light: i", (x, v) -> x.light(v));
    }

    private static void seen() {
        range("seen: e", Situation.BUSY, 0, 3, (x, v) -> x.seen(v, 0, 0));
        colourRange("seen: i", (x, v) -> x.seen(3, v, 2));
        range("seen: k", Situation.BUSY, 0, 2, (x, v) -> x.seen(0, 0, v));
        range("seen: k", Situation.CROWDED, 0, 2, (x, v) -> x.seen(3, 19, v));
    }

    private static void distance() {
        range("distance: e", Situation.BUSY, 0, 3, (x, v) -> x.distance(v, 0, 1));
        colourRange("distance: i", (x, v) -> x.distance(0, v, 0));
        colourRange("distance: j", (x, v) -> x.distance(0, 0, v));
    }

    private static void apart() {
        colourRange("apart: i", (x, v) -> x.apart(v, 0));
        colourRange("apart: j", (x, v) -> x.apart(0, v));
    }

    private static void fills() {
        range("fills: n", Situation.NEW, 1, 8, (x, v) -> x.fills(v));
        for (Situation situation : new Situation[] {Situation.BUSY, Situation.CROWDED}) {
            notTaken("fills: n", situation, 0, (x, v) -> x.fills(v));
            notTaken("fills: n", situation, 9, (x, v) -> x.fills(v));
            for (int far : FAR_OFF) {
                notTaken("fills: n", situation, far, (x, v) -> x.fills(v));
            }
        }
    }

    /** BAD: i below 0; there is no greatest one. */
    private static void palette() {
        everywhere("palette: i", 0, MANY, (x, v) -> x.palette(v));
        check.due("palette: the greatest i", Situation.CROWDED.make().palette(MANY), HuesApart.NONE);
    }

    private static void best() {
        everywhere("best: n", 1, 4, (x, v) -> x.best(v));
    }

    private static void mistaken() {
        everywhere("mistaken: e", 0, 3, (x, v) -> x.mistaken(v, 5));
        everywhere("mistaken: v", 0, 9999, (x, v) -> x.mistaken(0, v));
        everywhere("mistaken: v", 0, 9999, (x, v) -> x.mistaken(3, v));
    }

    private static void count() {
        everywhere("count: what", 0, 7, (x, v) -> x.count(v));
    }

    private static void type() {
        range("type: c", Situation.NEW, 0, 127, (x, v) -> x.type(v));
        range("type: c", Situation.BUSY, 0, 127, (x, v) -> x.type(v));
    }

    private static void told() {
        everywhere("told: what", 0, 7, (x, v) -> x.told(v));
    }

    /** A call that has no number can not be BAD, and of those only back() can be refused. */
    private static void callsWithoutNumbers() {
        for (Situation situation : Situation.values()) {
            Hues x = situation.make();
            check.notRefused(situation + ": swaps()", x, y -> y.swaps());
            check.notRefused(situation + ": least()", x, y -> y.least());
            check.notRefused(situation + ": nearest()", x, y -> y.nearest());
            check.notRefused(situation + ": does()", x, y -> y.does());
            check.notRefused(situation + ": digest()", x, y -> (int) y.digest());
            check.notRefused(situation + ": clear()", x, y -> y.clear());
            check.notRefused(situation + ": does() without a TEXT", x, y -> y.does());
            check.notRefused(situation + ": back()", x, y -> y.back());
        }
    }

    /** paints() and ground(): none, one, two or all three of R, G, B were other. */
    private static void howManyWereOther() {
        for (int bits = 0; bits < 8; bits++) {
            for (int step = -1; step <= 1; step += 2) {
                int r = 10 + step * (bits & 1);
                int g = 20 + step * (bits >> 1 & 1);
                int b = 30 + step * (bits >> 2 & 1);
                Hues x = new Hues();
                x.colour(40, 50, 60);
                x.colour(10, 20, 30);
                x.ground(10, 20, 30);
                check.due("paints", x.paints(1, r, g, b), Integer.bitCount(bits));
                check.due("ground", x.ground(r, g, b), Integer.bitCount(bits));
                check.due("R", 1000 * x.of(1, 0) + x.count(5), 1001 * r);
                check.due("G", 1000 * x.of(1, 1) + x.count(6), 1001 * g);
                check.due("B", 1000 * x.of(1, 2) + x.count(7), 1001 * b);
                check.due("the other COLOUR", x.of(0, 0) + x.of(0, 1) + x.of(0, 2), 150);
            }
        }
        Hues like = new Hues();
        like.colour(10, 20, 30);
        check.due("like numbers at other places", like.paints(0, 20, 30, 10), 3);
        check.due("like numbers at other places", like.paints(0, 30, 20, 10), 2);
    }

    private static void numbersOfColoursGrowWithThem() {
        Hues x = new Hues();
        for (int i = 0; i < 20; i++) {
            check.due("of a COLOUR that is not yet", x.of(i, 0), HuesApart.BAD);
            check.due("the number of a new COLOUR", x.colour(i, 0, 0), i);
            check.due("of the newest COLOUR", x.of(i, 0), i);
        }
        check.due("how often refused", x.told(0), 20);
        check.due("behind the last one that can be", x.of(20, 0), HuesApart.BAD);
    }

    private static void numbersOfColoursGoBackWithThem() {
        Hues x = new Hues();
        x.colour(1, 2, 3);
        x.colour(4, 5, 6);
        x.back();
        check.due("the first one is still there", x.light(0) > 0 ? 1 : 0, 1);
        check.refused("of: gone", x, HuesApart.BAD, y -> y.of(1, 0));
        check.refused("light: gone", x, HuesApart.BAD, y -> y.light(1));
        check.refused("paints: gone", x, HuesApart.BAD, y -> y.paints(1, 0, 0, 0));
        check.refused("fixes: gone", x, HuesApart.BAD, y -> y.fixes(1, 1));
        check.refused("seen: gone", x, HuesApart.BAD, y -> y.seen(0, 1, 0));
        check.refused("distance: gone", x, HuesApart.BAD, y -> y.distance(0, 0, 1));
        check.refused("apart: gone", x, HuesApart.BAD, y -> y.apart(1, 0));
    }

    private static void severalWrongNumbersCountOnce() {
        check.refusedIn(Situation.BUSY, "colour", HuesApart.BAD, x -> x.colour(-1, 256, 999));
        check.refusedIn(Situation.BUSY, "paints", HuesApart.BAD, x -> x.paints(-1, -1, 256, 999));
        check.refusedIn(Situation.BUSY, "ground", HuesApart.BAD, x -> x.ground(256, 256, 256));
        check.refusedIn(Situation.BUSY, "eye", HuesApart.BAD, x -> x.eye(4, 13, 301));
        check.refusedIn(Situation.BUSY, "sets", HuesApart.BAD, x -> x.sets(3, 256));
        check.refusedIn(Situation.BUSY, "fixes", HuesApart.BAD, x -> x.fixes(4, 2));
        check.refusedIn(Situation.BUSY, "of", HuesApart.BAD, x -> x.of(4, 6));
        check.refusedIn(Situation.BUSY, "look", HuesApart.BAD, x -> x.look(4, 13));
        check.refusedIn(Situation.BUSY, "seen", HuesApart.BAD, x -> x.seen(4, 4, 3));
        check.refusedIn(Situation.BUSY, "distance", HuesApart.BAD, x -> x.distance(4, 4, 4));
        check.refusedIn(Situation.BUSY, "apart", HuesApart.BAD, x -> x.apart(4, 4));
        check.refusedIn(Situation.BUSY, "mistaken", HuesApart.BAD, x -> x.mistaken(4, 10000));
    }

    /** "what it was (perhaps below 0)": -1 to -4 are then numbers of a TABLE, no NONE, BAD, NO or FULL. */
    private static void answersBelowZeroThatRefuseNothing() {
        for (int v = -4; v < 0; v++) {
            Hues x = new Hues();
            int was = v;
            x.eye(1, 5, v);
            check.due("look", check.notRefused("look " + v, x, y -> y.look(1, 5)), was);
            check.due("what it was", check.notRefused("eye " + v, x, y -> y.eye(1, 5, 7)), was);
            check.due("a STATE was left", x.told(7), 2);
        }
    }
}
