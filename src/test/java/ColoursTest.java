/** Promises 1 to 7: a new object, colour, paints, ground, eye, sets, fixes. */
public final class ColoursTest {
    private static final Check check = new Check("ColoursTest");
    private static final int[] OUTSIDE = {-1, 256, Integer.MIN_VALUE, Integer.MAX_VALUE};

    public static void main(String[] args) {
        newObject();
        colour();
        paints();
        ground();
        eye();
        sets();
        fixes();
        check.end();
    }

    private static void newObject() {
        Hues x = new Hues();
        int[] told = {0, 0, 0, 0, 255, 0, 0, 0};
        int[] counts = {0, 0, 0, 0, 1, 255, 255, 255};
        for (int k = 0; k < 8; k++) {
            check.due("new: told(" + k + ")", x.told(k), told[k]);
            check.due("new: count(" + k + ")", x.count(k), counts[k]);
        }
        int[] eye = {100, 0, 0, 0, 100, 0, 0, 0, 100, 1, 1, 1};
        for (int e = 0; e < 4; e++) {
            for (int k = 0; k < 12; k++) {
                check.due("new: look(" + e + ", " + k + ")", x.look(e, k), eye[k]);
            }
            check.due("new: look(" + e + ", 12)", x.look(e, 12), e == 0 ? 1 : 0);
        }
        check.due("new: palette(0)", x.palette(0), HuesApart.NONE);
        check.due("new: least()", x.least(), 0);
        check.due("new: nearest()", x.nearest(), HuesApart.NONE);
        check.refused("new: back()", x, HuesApart.NO, y -> y.back());
    }

    private static void colour() {
        Hues x = new Hues();
        for (int wrong : OUTSIDE) {
            check.refused("colour r", x, HuesApart.BAD, y -> y.colour(wrong, 0, 0));
            check.refused("colour g", x, HuesApart.BAD, y -> y.colour(0, wrong, 0));
            check.refused("colour b", x, HuesApart.BAD, y -> y.colour(0, 0, wrong));
        }
        for (int i = 0; i < 20; i++) {
            check.due("colour", x.colour(i, 255 - i, 0), i);
            check.due("states", x.told(7), Math.min(i + 1, 5));
        }
        check.due("of(19, 0)", x.of(19, 0), 19);
        check.due("of(19, 1)", x.of(19, 1), 236);
        check.due("of(19, 2)", x.of(19, 2), 0);
        check.refused("the 21st", x, HuesApart.FULL, y -> y.colour(0, 0, 0));
        check.refused("BAD comes before FULL", x, HuesApart.BAD, y -> y.colour(0, 0, 256));
        check.due("count(0)", x.count(0), 20);
        check.due("back()", x.back(), 4);
        check.due("a place again", x.colour(255, 255, 255), 19);
    }

    private static void paints() {
        Hues x = new Hues();
        check.refused("no COLOUR yet", x, HuesApart.BAD, y -> y.paints(0, 0, 0, 0));
        x.colour(1, 2, 3);
        x.colour(4, 5, 6);
        check.refused("i too great", x, HuesApart.BAD, y -> y.paints(2, 0, 0, 0));
        check.refused("i below 0", x, HuesApart.BAD, y -> y.paints(-1, 0, 0, 0));
        for (int wrong : OUTSIDE) {
            check.refused("paints r", x, HuesApart.BAD, y -> y.paints(0, wrong, 0, 0));
            check.refused("paints g", x, HuesApart.BAD, y -> y.paints(0, 0, wrong, 0));
            check.refused("paints b", x, HuesApart.BAD, y -> y.paints(0, 0, 0, wrong));
        }
        check.due("one other", x.paints(1, 4, 9, 6), 1);
        check.due("two other", x.paints(1, 0, 9, 255), 2);
        check.due("three other", x.paints(1, 1, 2, 3), 3);
        check.due("none other", x.paints(1, 1, 2, 3), 0);
        check.due("none other leaves a STATE", x.told(7), 5);
        check.due("the first one stays", x.of(0, 0) + x.of(0, 1) + x.of(0, 2), 6);
        check.due("G", x.of(1, 1), 2);
        x.back();
        x.back();
        check.due("G two back", x.of(1, 1), 9);
        check.due("B two back", x.of(1, 2), 255);
    }

    private static void ground() {
        Hues x = new Hues();
        for (int wrong : OUTSIDE) {
            check.refused("ground r", x, HuesApart.BAD, y -> y.ground(wrong, 0, 0));
            check.refused("ground g", x, HuesApart.BAD, y -> y.ground(0, wrong, 0));
            check.refused("ground b", x, HuesApart.BAD, y -> y.ground(0, 0, wrong));
        }
        check.due("none other", x.ground(255, 255, 255), 0);
        check.due("leaves a STATE", x.told(7), 1);
        check.due("three other", x.ground(1, 2, 3), 3);
        check.due("one other", x.ground(1, 0, 3), 1);
        check.due("R", x.count(5), 1);
        check.due("G", x.count(6), 0);
        check.due("B", x.count(7), 3);
        x.back();
        check.due("G back", x.count(6), 2);
    }

    private static void eye() {
        Hues x = new Hues();
        check.refused("e", x, HuesApart.BAD, y -> y.eye(4, 0, 0));
        check.refused("e", x, HuesApart.BAD, y -> y.eye(-1, 0, 0));
        check.refused("k", x, HuesApart.BAD, y -> y.eye(0, 13, 0));
        check.refused("k", x, HuesApart.BAD, y -> y.eye(0, -1, 0));
        for (int k = 0; k <= 12; k++) {
            eyeNumber(k);
        }
    }

    private static void eyeNumber(int k) {
        Hues x = new Hues();
        int low = k < 9 ? -300 : 0;
        int high = k < 9 ? 300 : k < 12 ? 9 : 1;
        int first = k == 12 ? 0 : k > 8 ? 1 : k % 4 == 0 ? 100 : 0;
        check.refused("v", x, HuesApart.BAD, y -> y.eye(2, k, low - 1));
        check.refused("v", x, HuesApart.BAD, y -> y.eye(2, k, high + 1));
        check.due("what it was", x.eye(2, k, low), first);
        check.due("look", x.look(2, k), low);
        check.due("what it was", x.eye(2, k, high), low);
        check.due("what it was", x.eye(2, k, high), high);
        check.due("STATES", x.told(7), 3);
        check.due("other EYE", x.look(3, k), first);
        x.back();
        x.back();
        check.due("back", x.look(2, k), low);
    }

    private static void sets() {
        Hues x = new Hues();
        int[] first = {0, 255, 0};
        for (int what = 0; what < 3; what++) {
            int k = what;
            for (int wrong : OUTSIDE) {
                check.refused("v", x, HuesApart.BAD, y -> y.sets(k, wrong));
            }
            check.due("what it was", x.sets(k, 77 + k), first[k]);
            check.due("what it was", x.sets(k, 77 + k), 77 + k);
            check.due("told", x.told(3 + k), 77 + k);
        }
        check.refused("what", x, HuesApart.BAD, y -> y.sets(3, 0));
        check.refused("what", x, HuesApart.BAD, y -> y.sets(-1, 0));
        check.due("LOW may be above HIGH", x.sets(0, 255), 77);
        x.back();
        check.due("LOW back", x.told(3), 77);
        x.back();
        x.back();
        check.due("GAP back", x.told(5), 0);
    }

    private static void fixes() {
        Hues x = new Hues();
        check.refused("no COLOUR yet", x, HuesApart.BAD, y -> y.fixes(0, 1));
        for (int i = 0; i < 20; i++) {
            x.colour(i, i, i);
        }
        check.refused("i", x, HuesApart.BAD, y -> y.fixes(20, 1));
        check.refused("i", x, HuesApart.BAD, y -> y.fixes(-1, 1));
        check.refused("on", x, HuesApart.BAD, y -> y.fixes(0, 2));
        check.refused("on", x, HuesApart.BAD, y -> y.fixes(0, -1));
        check.due("one", x.fixes(19, 1), 1);
        check.due("two", x.fixes(2, 1), 2);
        check.due("still two", x.fixes(2, 1), 2);
        check.due("bits", x.count(2), 1 << 19 | 1 << 2);
        check.due("not that one", x.fixes(3, 0), 2);
        check.due("one less", x.fixes(19, 0), 1);
        check.due("bits", x.count(2), 4);
        check.due("FIXED", x.of(2, 3), 1);
        check.due("not FIXED", x.of(19, 3), 0);
        x.back();
        check.due("back", x.count(2), 1 << 19 | 1 << 2);
    }
}
