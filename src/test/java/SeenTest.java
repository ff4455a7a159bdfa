/** Promises 8 to 13: of, look, light, seen, distance, apart. */
public final class SeenTest {
    private static final Check check = new Check("SeenTest");

    public static void main(String[] args) {
        of();
        fits();
        look();
        light();
        seen();
        minusZero();
        distance();
        apart();
        check.end();
    }

    private static void of() {
        Hues x = new Hues();
        check.refused("no COLOUR yet", x, HuesApart.BAD, y -> y.of(0, 0));
        x.colour(10, 20, 30);
        x.colour(200, 210, 220);
        check.refused("i", x, HuesApart.BAD, y -> y.of(2, 0));
        check.refused("i", x, HuesApart.BAD, y -> y.of(Integer.MIN_VALUE, 0));
        check.refused("what", x, HuesApart.BAD, y -> y.of(0, 6));
        check.refused("what", x, HuesApart.BAD, y -> y.of(0, -1));
        int[] want = {200, 210, 220, 0, 1, HuesApart.NONE};
        for (int what = 0; what < 6; what++) {
            check.due("of(1, " + what + ")", x.of(1, what), want[what]);
        }
        x.fills(2);
        check.due("place of the lightest", x.of(1, 5), 0);
        check.due("place of the other", x.of(0, 5), 1);
    }

    private static void fits() {
        Hues x = new Hues();
        x.colour(0, 0, 0);
        x.colour(50, 50, 50);
        x.colour(255, 255, 255);
        check.due("LOW itself", x.of(0, 4), 1);
        check.due("like THE GROUND, GAP 0", x.of(2, 4), 1);
        x.sets(2, 1);
        check.due("like THE GROUND, GAP 1", x.of(2, 4), 0);
        x.ground(0, 0, 0);
        check.due("above THE GROUND", x.of(1, 4), 1);
        check.due("like THE GROUND", x.of(0, 4), 0);
        x.sets(2, 50);
        float gap = (0.299f * 50f + 0.587f * 50f) + 0.114f * 50f;
        check.due("GAP itself", x.of(1, 4), gap >= 50f ? 1 : 0);
        x.sets(2, 51);
        check.due("GAP more", x.of(1, 4), 0);
        x.sets(2, 255);
        check.due("GAP 255", x.of(2, 4), 1);
        x.sets(2, 0);
        x.sets(0, 51);
        check.due("below LOW", x.of(1, 4), 0);
        x.sets(0, 0);
        x.sets(1, 49);
        check.due("above HIGH", x.of(1, 4), 0);
        check.due("not above HIGH", x.of(0, 4), 1);
        x.sets(1, 0);
        check.due("HIGH itself", x.of(0, 4), 1);
        x.sets(0, 1);
        check.due("LOW above HIGH: how many FIT", x.count(1), 0);
    }

    private static void look() {
        Hues x = new Hues();
        check.refused("e", x, HuesApart.BAD, y -> y.look(4, 0));
        check.refused("e", x, HuesApart.BAD, y -> y.look(-1, 0));
        check.refused("k", x, HuesApart.BAD, y -> y.look(0, 13));
        check.refused("k", x, HuesApart.BAD, y -> y.look(0, -1));
        x.eye(3, 5, -42);
        x.eye(3, 11, 8);
        x.eye(3, 12, 1);
        check.due("TABLE", x.look(3, 5), -42);
        check.due("WEIGHT", x.look(3, 11), 8);
        check.due("COUNTS", x.look(3, 12), 1);
        check.due("EYE 0", x.look(0, 12), 1);
    }

    private static void light() {
        Hues x = new Hues();
        check.refused("no COLOUR yet", x, HuesApart.BAD, y -> y.light(0));
        int[] parts = {0, 1, 2, 7, 100, 127, 128, 254, 255};
        int i = x.colour(0, 0, 0);
        check.due("black", x.light(i), 0);
        for (int r : parts) {
            for (int g : parts) {
                x.paints(i, r, g, 255 - r);
                check.dueFloat("light", x.light(i), (0.299f * r + 0.587f * g) + 0.114f * (255 - r));
            }
        }
        check.refused("i", x, HuesApart.BAD, y -> y.light(1));
        check.refused("i", x, HuesApart.BAD, y -> y.light(-1));
    }

    private static void seen() {
        Hues x = new Hues();
        int i = x.colour(13, 77, 251);
        int[] numbers = {-300, -299, -7, -1, 0, 1, 3, 33, 300};
        for (int k = 0; k < 3; k++) {
            for (int t : numbers) {
                x.eye(2, 3 * k, t);
                x.eye(2, 3 * k + 1, -t / 2);
                x.eye(2, 3 * k + 2, 5);
                float want = (t / 100f * 13f + -t / 2 / 100f * 77f) + 5 / 100f * 251f;
                check.dueFloat("seen row " + k, x.seen(2, i, k), want);
            }
        }
        check.dueFloat("an EYE that is as at first", x.seen(3, i, 1), 77f);
        check.refused("e", x, HuesApart.BAD, y -> y.seen(4, 0, 0));
        check.refused("e", x, HuesApart.BAD, y -> y.seen(-1, 0, 0));
        check.refused("i", x, HuesApart.BAD, y -> y.seen(0, 1, 0));
        check.refused("i", x, HuesApart.BAD, y -> y.seen(0, -1, 0));
        check.refused("k", x, HuesApart.BAD, y -> y.seen(0, 0, 3));
        check.refused("k", x, HuesApart.BAD, y -> y.seen(0, 0, -1));
    }

    /** A sum of terms that are all -0f is -0f, and its bits say so. */
    private static void minusZero() {
        Hues x = new Hues();
        int black = x.colour(0, 0, 0);
        int blue = x.colour(0, 0, 1);
        for (int k = 3; k < 6; k++) {
            check.due("one is not below 0", x.seen(1, black, 1), 0);
            x.eye(1, k, -1);
        }
        check.dueFloat("all below 0", x.seen(1, black, 1), -0f);
        check.dueFloat("not black", x.seen(1, blue, 1), -0.01f);
        check.due("other row", x.seen(1, black, 2), 0);
        check.due("DISTANCE has no sign", x.distance(1, black, black), 0);
        x.eye(1, 5, 0);
        check.due("0 * 1 is 0f", x.seen(1, blue, 1), 0);
        x.eye(1, 5, -300);
        for (int k = 3; k < 6; k++) {
            x.eye(1, k, 0);
            check.due("column " + (k - 3) + " is 0", x.seen(1, black, 1), 0);
            x.eye(1, k, -2);
        }
        for (int k = 0; k < 3; k++) {
            int i = x.colour(k == 0 ? 1 : 0, k == 1 ? 1 : 0, k == 2 ? 1 : 0);
            int another = x.colour(0, 0, 0);
            check.dueFloat("channel " + k + " is 1", x.seen(1, i, 1), -0.02f);
            check.dueFloat("a later black", x.seen(1, another, 1), -0f);
        }
    }

    private static void distance() {
        Hues x = new Hues();
        x.colour(10, 200, 33);
        x.colour(90, 7, 34);
        check.dueFloat("as at first", x.distance(0, 0, 1), (6400f + 193f * 193f) + 1f);
        check.due("to itself", x.distance(0, 1, 1), 0);
        x.eye(3, 9, 0);
        x.eye(3, 10, 9);
        x.eye(3, 11, 4);
        check.dueFloat("WEIGHTS", x.distance(3, 0, 1), (0f + 9f * (193f * 193f)) + 4f);
        x.eye(3, 4, 33);
        x.eye(3, 3, -7);
        float d1 = ((-7 / 100f * 10f + 33 / 100f * 200f) + 0f) - ((-7 / 100f * 90f + 33 / 100f * 7f) + 0f);
        check.dueFloat("a TABLE", x.distance(3, 0, 1), (0f + 9f * (d1 * d1)) + 4f);
        check.due("the other way round", x.distance(3, 1, 0), x.distance(3, 0, 1));
        check.refused("e", x, HuesApart.BAD, y -> y.distance(4, 0, 0));
        check.refused("e", x, HuesApart.BAD, y -> y.distance(-1, 0, 0));
        check.refused("i", x, HuesApart.BAD, y -> y.distance(0, 2, 0));
        check.refused("j", x, HuesApart.BAD, y -> y.distance(0, 0, 2));
        check.refused("j", x, HuesApart.BAD, y -> y.distance(0, 0, -1));
    }

    private static void apart() {
        Hues x = new Hues();
        x.colour(10, 0, 0);
        x.colour(0, 30, 0);
        check.dueFloat("EYE 0 alone", x.apart(0, 1), 1000f);
        x.eye(2, 9, 0);
        x.eye(2, 10, 1);
        check.dueFloat("EYE 2 does not COUNT", x.apart(0, 1), 1000f);
        x.eye(2, 12, 1);
        check.dueFloat("EYE 2 COUNTS", x.apart(0, 1), 900f);
        x.eye(3, 12, 1);
        check.dueFloat("EYE 3 too", x.apart(0, 1), 900f);
        x.eye(2, 12, 0);
        x.eye(0, 12, 0);
        check.dueFloat("EYE 3 alone", x.apart(1, 0), 1000f);
        x.eye(3, 12, 0);
        check.due("none COUNTS", x.apart(0, 1), 0);
        check.refused("i", x, HuesApart.BAD, y -> y.apart(2, 0));
        check.refused("i", x, HuesApart.BAD, y -> y.apart(-1, 0));
        check.refused("j", x, HuesApart.BAD, y -> y.apart(0, 2));
        check.refused("j", x, HuesApart.BAD, y -> y.apart(0, -1));
    }
}
