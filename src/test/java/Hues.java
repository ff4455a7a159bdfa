/**
 * One object of HuesApart as the tests use it. The document promises nothing about an object after its
 * 512th call, so a test that asks for more is itself wrong: it ends at once.
 */
final class Hues {
    private static final int MOST_CALLS = 512;

    private final HuesApart own = new HuesApart();
    private int calls;

    private HuesApart next() {
        calls++;
        if (calls > MOST_CALLS) {
            throw new IllegalStateException("a test uses one object for more than 512 calls");
        }
        return own;
    }

    /** COLOURS that differ in R alone: for EYE 0 as at first APART is the square of the step. */
    static Hues reds(int... reds) {
        Hues x = new Hues();
        for (int red : reds) {
            x.colour(red, 0, 0);
        }
        return x;
    }

    /** COLOURS by their R, G, B, one behind the other. */
    static Hues with(int... rgb) {
        Hues x = new Hues();
        for (int from = 0; from + 2 < rgb.length; from += 3) {
            x.colour(rgb[from], rgb[from + 1], rgb[from + 2]);
        }
        return x;
    }

    /** All of these are FIXED, or not. */
    void fixAll(int on, int... colours) {
        for (int i : colours) {
            fixes(i, on);
        }
    }

    /** THE PALETTE becomes just these, which have to rise; none is FIXED then. */
    void choose(int... colours) {
        fixAll(1, colours);
        fills(colours.length);
        fixAll(0, colours);
    }

    /** THE TEXT becomes this one. */
    void write(String text) {
        clear();
        for (int k = 0; k < text.length(); k++) {
            type(text.charAt(k));
        }
    }

    int doText(String text) {
        write(text);
        return does();
    }

    /** digest() as the document tells it, by the other getters. */
    long digestByHand() {
        long h = 2619;
        for (int k = 0; k < 8; k++) {
            h = 31 * h + told(k);
        }
        for (int k = 0; k < 8; k++) {
            h = 31 * h + count(k);
        }
        int colours = count(0);
        for (int i = 0; i < colours; i++) {
            for (int k = 0; k < 6; k++) {
                h = 31 * h + of(i, k);
            }
            h = 31 * h + light(i);
        }
        for (int e = 0; e < 4; e++) {
            for (int k = 0; k < 13; k++) {
                h = 31 * h + look(e, k);
            }
        }
        int row = count(3);
        for (int place = 0; place < row; place++) {
            h = 31 * h + palette(place);
        }
        h = 31 * h + least();
        return 31 * h + nearest();
    }

    int colour(int r, int g, int b) {
        return next().colour(r, g, b);
    }

    int paints(int i, int r, int g, int b) {
        return next().paints(i, r, g, b);
    }

    int ground(int r, int g, int b) {
        return next().ground(r, g, b);
    }

    int eye(int e, int k, int v) {
        return next().eye(e, k, v);
    }

    int sets(int what, int v) {
        return next().sets(what, v);
    }

    int fixes(int i, int on) {
        return next().fixes(i, on);
    }

    int of(int i, int what) {
        return next().of(i, what);
    }

    int look(int e, int k) {
        return next().look(e, k);
    }

    int light(int i) {
        return next().light(i);
    }

    int seen(int e, int i, int k) {
        return next().seen(e, i, k);
    }

    int distance(int e, int i, int j) {
        return next().distance(e, i, j);
    }

    int apart(int i, int j) {
        return next().apart(i, j);
    }

    int fills(int n) {
        return next().fills(n);
    }

    int swaps() {
        return next().swaps();
    }

    int palette(int i) {
        return next().palette(i);
    }

    int least() {
        return next().least();
    }

    int nearest() {
        return next().nearest();
    }

    int best(int n) {
        return next().best(n);
    }

    int mistaken(int e, int v) {
        return next().mistaken(e, v);
    }

    int count(int what) {
        return next().count(what);
    }

    int type(int c) {
        return next().type(c);
    }

    int clear() {
        return next().clear();
    }

    int does() {
        return next().does();
    }

    int back() {
        return next().back();
    }

    int told(int what) {
        return next().told(what);
    }

    long digest() {
        return next().digest();
    }
}
