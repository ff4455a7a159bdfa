import java.util.Arrays;

/** Colours seen by eyes of several kinds, and palettes whose colours are far apart for all of them. */
public final class HuesApart {
    public static final int NONE = -1, BAD = -2, NO = -3, FULL = -4;

    private static final int MOST_COLOURS = 20;
    private static final int EYES = 4;
    private static final int EYE_NUMBERS = 13;
    private static final int FIRST_WEIGHT = 9;
    private static final int COUNTS = 12;
    private static final int LOW = 0;
    private static final int HIGH = 1;
    private static final int GAP = 2;
    private static final int MOST_IN_PALETTE = 8;
    private static final int MOST_IN_BEST = 4;
    private static final int MOST_SWAPS = 60;
    private static final int MOST_STATES = 5;
    private static final int MOST_BYTES = 120;
    /** An ORDER has two bytes at least. */
    private static final int MOST_ORDERS = 60;
    private static final int FINE = 0;
    private static final int SIGN_BIT = 1 << 31;

    private final Scene scene;
    /** The STATES, the oldest first; the place behind them is where the next one is noted. */
    private final Scene[] kept;
    private int states;
    private final int[] refused;
    private final Script script;
    private final Chooser chooser;

    public HuesApart() {
        scene = new Scene();
        kept = new Scene[MOST_STATES + 1];
        for (int i = 0; i < kept.length; i++) {
            kept[i] = new Scene();
        }
        states = 0;
        refused = new int[3];
        script = new Script();
        chooser = new Chooser();
    }

    // ---- colours and eyes

    public int colour(int r, int g, int b) {
        int why = whyNoColour(r, g, b);
        if (why != FINE) {
            return refuse(why);
        }
        leaveState();
        return scene.addColour(r, g, b);
    }

    public int paints(int i, int r, int g, int b) {
        if (!isColour(i) || !isRgb(r, g, b)) {
            return refuse(BAD);
        }
        leaveState();
        return putRgb(scene.rgb, 3 * i, r, g, b);
    }

    public int ground(int r, int g, int b) {
        if (!isRgb(r, g, b)) {
            return refuse(BAD);
        }
        leaveState();
        return putRgb(scene.groundRgb, 0, r, g, b);
    }

    public int eye(int e, int k, int v) {
        if (!isEye(e) || !isEyeNumber(k, v)) {
            return refuse(BAD);
        }
        leaveState();
        int at = EYE_NUMBERS * e + k;
        int old = scene.eyes[at];
        scene.eyes[at] = v;
        return old;
    }

    public int sets(int what, int v) {
        int why = whyNoLimit(what, v);
        if (why != FINE) {
            return refuse(why);
        }
        leaveState();
        return scene.setLimit(what, v);
    }

    public int fixes(int i, int on) {
        int why = whyNotFixed(i, on);
        if (why != FINE) {
            return refuse(why);
        }
        leaveState();
        return scene.setFixed(i, on);
    }

    // ---- what is seen

    public int of(int i, int what) {
        if (!isColour(i) || !isWithin(what, 0, 5)) {
            return refuse(BAD);
        }
        switch (what) {
            case 3:
                return scene.isFixed(i) ? 1 : 0;
            case 4:
                return scene.isFit(i) ? 1 : 0;
            case 5:
                return scene.placeOf(i);
            default:
                return scene.rgb[3 * i + what];
        }
    }

    public int look(int e, int k) {
        if (!isEye(e) || !isWithin(k, 0, EYE_NUMBERS - 1)) {
            return refuse(BAD);
        }
        return scene.eyes[EYE_NUMBERS * e + k];
    }

    public int light(int i) {
        if (!isColour(i)) {
            return refuse(BAD);
        }
        return bitsOf(scene.lightOf(i));
    }

    public int seen(int e, int i, int k) {
        if (!isEye(e) || !isColour(i) || !isWithin(k, 0, 2)) {
            return refuse(BAD);
        }
        return scene.isSeenAsMinusZero(e, i, k) ? SIGN_BIT : bitsOf(scene.seenBy(e, i, k));
    }

    public int distance(int e, int i, int j) {
        if (!isEye(e) || !isColour(i) || !isColour(j)) {
            return refuse(BAD);
        }
        return bitsOf(scene.distanceFor(e, i, j));
    }

    public int apart(int i, int j) {
        if (!isColour(i) || !isColour(j)) {
            return refuse(BAD);
        }
        return bitsOf(scene.apartOf(i, j));
    }

    // ---- palettes

    public int fills(int n) {
        int why = whyNoFilling(n);
        if (why != FINE) {
            return refuse(why);
        }
        leaveState();
        chooser.fill(scene, n);
        return scene.rowLength;
    }

    public int swaps() {
        leaveState();
        return chooser.swapAll(scene);
    }

    public int palette(int i) {
        if (i < 0) {
            return refuse(BAD);
        }
        return i < scene.rowLength ? scene.row[i] : NONE;
    }

    public int least() {
        chooser.measure(scene);
        return bitsOf(chooser.leastOf(scene.row, scene.rowLength));
    }

    public int nearest() {
        chooser.measure(scene);
        return chooser.nearestPlaces(scene);
    }

    public int best(int n) {
        if (!isWithin(n, 1, MOST_IN_BEST)) {
            return refuse(BAD);
        }
        return chooser.bestSet(scene, n);
    }

    public int mistaken(int e, int v) {
        if (!isEye(e) || !isWithin(v, 0, 9999)) {
            return refuse(BAD);
        }
        return scene.pairsBelow(e, v);
    }

    public int count(int what) {
        if (!isWithin(what, 0, 7)) {
            return refuse(BAD);
        }
        switch (what) {
            case 0:
                return scene.colours;
            case 1:
                return Integer.bitCount(scene.fitBits());
            case 2:
                return scene.fixedBits;
            case 3:
                return scene.rowLength;
            case 4:
                return scene.countingBits();
            default:
                return scene.groundRgb[what - 5];
        }
    }

    // ---- texts

    public int type(int c) {
        if (!isWithin(c, 0, 127)) {
            return refuse(BAD);
        }
        if (script.length >= MOST_BYTES) {
            return refuse(FULL);
        }
        return script.append(c);
    }

    public int clear() {
        int had = script.length;
        script.length = 0;
        return had;
    }

    public int does() {
        int fault = script.read();
        if (fault != NONE) {
            return -10 - fault;
        }
        noteState();
        for (int order = 0; order < script.orders; order++) {
            int kind = script.kinds[order];
            int first = script.firsts[order];
            int second = script.seconds[order];
            if (whyNoOrder(kind, first, second) != FINE) {
                scene.become(kept[states]);
                return -1000 - order;
            }
            obey(kind, first, second);
        }
        keepNoted();
        return script.orders;
    }

    public int back() {
        if (states == 0) {
            return refuse(NO);
        }
        states--;
        scene.become(kept[states]);
        return states;
    }

    public int told(int what) {
        if (!isWithin(what, 0, 7)) {
            return refuse(BAD);
        }
        if (what < 3) {
            return refused[what];
        }
        if (what < 6) {
            return scene.limits[what - 3];
        }
        return what == 6 ? script.length : states;
    }

    public long digest() {
        long h = 2619;
        for (int what = 0; what < 8; what++) {
            h = 31 * h + told(what);
        }
        for (int what = 0; what < 8; what++) {
            h = 31 * h + count(what);
        }
        for (int i = 0; i < scene.colours; i++) {
            for (int what = 0; what < 6; what++) {
                h = 31 * h + of(i, what);
            }
            h = 31 * h + light(i);
        }
        for (int at = 0; at < scene.eyes.length; at++) {
            h = 31 * h + scene.eyes[at];
        }
        for (int place = 0; place < scene.rowLength; place++) {
            h = 31 * h + scene.row[place];
        }
        h = 31 * h + least();
        return 31 * h + nearest();
    }

    // ---- what is refused: FINE, or why; shared by the calls and by THE TEXT

    private int whyNoColour(int r, int g, int b) {
        if (!isRgb(r, g, b)) {
            return BAD;
        }
        return scene.colours >= MOST_COLOURS ? FULL : FINE;
    }

    private int whyNoLimit(int what, int v) {
        return isWithin(what, LOW, GAP) && isWithin(v, 0, 255) ? FINE : BAD;
    }

    private int whyNotFixed(int i, int on) {
        return isColour(i) && isWithin(on, 0, 1) ? FINE : BAD;
    }

    private int whyNoFilling(int n) {
        if (!isWithin(n, 1, MOST_IN_PALETTE)) {
            return BAD;
        }
        return Integer.bitCount(scene.fixedBits) > n ? NO : FINE;
    }

    private int refuse(int why) {
        int at = BAD - why;
        if (at >= 0 && at < refused.length) {
            refused[at]++;
        }
        return why;
    }

    private boolean isColour(int i) {
        return i >= 0 && i < scene.colours;
    }

    private static boolean isEye(int e) {
        return isWithin(e, 0, EYES - 1);
    }

    private static boolean isEyeNumber(int k, int v) {
        if (!isWithin(k, 0, EYE_NUMBERS - 1)) {
            return false;
        }
        if (k == COUNTS) {
            return isWithin(v, 0, 1);
        }
        return k >= FIRST_WEIGHT ? isWithin(v, 0, 9) : isWithin(v, -300, 300);
    }

    private static boolean isRgb(int r, int g, int b) {
        return isWithin(r, 0, 255) && isWithin(g, 0, 255) && isWithin(b, 0, 255);
    }

    private static boolean isWithin(int v, int from, int to) {
        return v >= from && v <= to;
    }

    // ---- ORDERS and STATES

    private int whyNoOrder(int kind, int first, int second) {
        switch (kind) {
            case 'c':
                return whyNoColour(redOf(first), greenOf(first), blueOf(first));
            case 'f':
                return whyNotFixed(first, second);
            case 'l':
                return whyNoLimit(LOW, first) != FINE ? BAD : whyNoLimit(HIGH, second);
            case 'p':
                return whyNoFilling(first);
            default:
                return FINE;
        }
    }

    private void obey(int kind, int first, int second) {
        switch (kind) {
            case 'c':
                scene.addColour(redOf(first), greenOf(first), blueOf(first));
                break;
            case 'f':
                scene.setFixed(first, second);
                break;
            case 'l':
                scene.setLimit(LOW, first);
                scene.setLimit(HIGH, second);
                break;
            case 'p':
                chooser.fill(scene, first);
                break;
            default:
                chooser.swapAll(scene);
                break;
        }
    }

    private static int redOf(int sixFigures) {
        return sixFigures >> 16 & 255;
    }

    private static int greenOf(int sixFigures) {
        return sixFigures >> 8 & 255;
    }

    private static int blueOf(int sixFigures) {
        return sixFigures & 255;
    }

    private void leaveState() {
        noteState();
        keepNoted();
    }

    /** Noting and keeping are two steps, since does() learns late whether its STATE is to be kept. */
    private void noteState() {
        kept[states].become(scene);
    }

    private void keepNoted() {
        if (states < MOST_STATES) {
            states++;
            return;
        }
        Scene oldest = kept[0];
        for (int i = 0; i < MOST_STATES; i++) {
            kept[i] = kept[i + 1];
        }
        kept[MOST_STATES] = oldest;
    }

    // ---- numbers

    /** Writes three numbers and tells how many of them were other. */
    private static int putRgb(int[] where, int from, int r, int g, int b) {
        int other = (where[from] == r ? 0 : 1) + (where[from + 1] == g ? 0 : 1) + (where[from + 2] == b ? 0 : 1);
        where[from] = r;
        where[from + 1] = g;
        where[from + 2] = b;
        return other;
    }

    /**
     * The bits of a finite float, for which the library at hand has no function. Halving and doubling
     * are exact here; a float that stays below 1 at the least power gives the bits of a subnormal one.
     */
    private static int bitsOf(float x) {
        float size = x < 0f ? -x : x;
        int power = 127;
        while (size >= 2f && power < 254) {
            size = size * 0.5f;
            power++;
        }
        while (size < 1f && power > 1) {
            size = size * 2f;
            power--;
        }
        int bits = ((power - 1) << 23) + (int) (size * 8388608f);
        return x < 0f ? bits | SIGN_BIT : bits;
    }

    /** All that a STATE holds. */
    private static final class Scene {
        private int colours;
        private final int[] rgb;
        private final int[] groundRgb;
        /** For each EYE nine numbers of its TABLE, three WEIGHTS, and whether it COUNTS. */
        private final int[] eyes;
        /** LOW, HIGH, GAP. */
        private final int[] limits;
        private int fixedBits;
        /** THE PALETTE. */
        private final int[] row;
        private int rowLength;

        Scene() {
            colours = 0;
            rgb = new int[3 * MOST_COLOURS];
            groundRgb = new int[3];
            Arrays.fill(groundRgb, 255);
            eyes = new int[EYE_NUMBERS * EYES];
            for (int from = 0; from < eyes.length; from += EYE_NUMBERS) {
                for (int k = 0; k < 3; k++) {
                    eyes[from + 4 * k] = 100;
                    eyes[from + FIRST_WEIGHT + k] = 1;
                }
            }
            eyes[COUNTS] = 1;
            limits = new int[3];
            limits[HIGH] = 255;
            fixedBits = 0;
            row = new int[MOST_IN_PALETTE];
            rowLength = 0;
        }

        void become(Scene other) {
            colours = other.colours;
            fixedBits = other.fixedBits;
            rowLength = other.rowLength;
            System.arraycopy(other.rgb, 0, rgb, 0, rgb.length);
            System.arraycopy(other.groundRgb, 0, groundRgb, 0, groundRgb.length);
            System.arraycopy(other.eyes, 0, eyes, 0, eyes.length);
            System.arraycopy(other.limits, 0, limits, 0, limits.length);
            System.arraycopy(other.row, 0, row, 0, row.length);
        }

        int addColour(int r, int g, int b) {
            int number = colours;
            putRgb(rgb, 3 * number, r, g, b);
            colours++;
            return number;
        }

        int setLimit(int what, int v) {
            int old = limits[what];
            limits[what] = v;
            return old;
        }

        int setFixed(int i, int on) {
            fixedBits = on == 1 ? fixedBits | 1 << i : fixedBits & ~(1 << i);
            return Integer.bitCount(fixedBits);
        }

        boolean isFixed(int i) {
            return (fixedBits >> i & 1) == 1;
        }

        void putIntoRow(int i) {
            if (rowLength < row.length) {
                row[rowLength] = i;
                rowLength++;
            }
        }

        int placeOf(int i) {
            for (int place = 0; place < rowLength; place++) {
                if (row[place] == i) {
                    return place;
                }
            }
            return NONE;
        }

        int rowBits() {
            int bits = 0;
            for (int place = 0; place < rowLength; place++) {
                bits |= 1 << row[place];
            }
            return bits;
        }

        int countingBits() {
            int bits = 0;
            for (int e = 0; e < EYES; e++) {
                bits |= eyes[EYE_NUMBERS * e + COUNTS] << e;
            }
            return bits;
        }

        int fitBits() {
            int bits = 0;
            for (int i = 0; i < colours; i++) {
                if (isFit(i)) {
                    bits |= 1 << i;
                }
            }
            return bits;
        }

        boolean isFit(int i) {
            float own = lightOf(i);
            if (own < limits[LOW] || own > limits[HIGH]) {
                return false;
            }
            float step = own - lightAt(groundRgb, 0);
            float size = step < 0f ? -step : step;
            return size >= limits[GAP];
        }

        float lightOf(int i) {
            return lightAt(rgb, 3 * i);
        }

        private static float lightAt(int[] where, int from) {
            return (0.299f * where[from] + 0.587f * where[from + 1]) + 0.114f * where[from + 2];
        }

        float seenBy(int e, int i, int k) {
            int at = EYE_NUMBERS * e + 3 * k;
            float x = eyes[at] / 100f;
            float y = eyes[at + 1] / 100f;
            float z = eyes[at + 2] / 100f;
            return (x * rgb[3 * i] + y * rgb[3 * i + 1]) + z * rgb[3 * i + 2];
        }

        /**
         * No comparison tells -0f from 0f. A sum is -0f only if each term is, and a term is -0f only if
         * a number below 0 is multiplied by 0.
         */
        boolean isSeenAsMinusZero(int e, int i, int k) {
            int at = EYE_NUMBERS * e + 3 * k;
            for (int column = 0; column < 3; column++) {
                if (eyes[at + column] >= 0 || rgb[3 * i + column] != 0) {
                    return false;
                }
            }
            return true;
        }

        float distanceFor(int e, int i, int j) {
            int at = EYE_NUMBERS * e + FIRST_WEIGHT;
            float d0 = seenBy(e, i, 0) - seenBy(e, j, 0);
            float d1 = seenBy(e, i, 1) - seenBy(e, j, 1);
            float d2 = seenBy(e, i, 2) - seenBy(e, j, 2);
            return (eyes[at] * (d0 * d0) + eyes[at + 1] * (d1 * d1)) + eyes[at + 2] * (d2 * d2);
        }

        float apartOf(int i, int j) {
            float nearest = 0f;
            boolean some = false;
            for (int e = 0; e < EYES; e++) {
                if (eyes[EYE_NUMBERS * e + COUNTS] == 1) {
                    float d = distanceFor(e, i, j);
                    nearest = some && nearest <= d ? nearest : d;
                    some = true;
                }
            }
            return nearest;
        }

        int pairsBelow(int e, int v) {
            int pairs = 0;
            for (int i = 0; i < rowLength; i++) {
                for (int j = i + 1; j < rowLength; j++) {
                    if (distanceFor(e, row[i], row[j]) < v) {
                        pairs++;
                    }
                }
            }
            return pairs;
        }
    }

    /** Chooses palettes and sets by a table of APART, which is measured once for each choice. */
    private static final class Chooser {
        /** As many sets of four are to be had of 20 COLOURS; of fewer than four there are fewer. */
        private static final int MOST_SETS = 4845;

        private final float[] gaps;
        private final int[] members;

        Chooser() {
            gaps = new float[MOST_COLOURS * MOST_COLOURS];
            members = new int[MOST_IN_BEST];
        }

        void measure(Scene s) {
            for (int i = 0; i < s.colours; i++) {
                for (int j = 0; j < i; j++) {
                    float gap = s.apartOf(i, j);
                    gaps[MOST_COLOURS * i + j] = gap;
                    gaps[MOST_COLOURS * j + i] = gap;
                }
            }
        }

        private float gap(int i, int j) {
            return gaps[MOST_COLOURS * i + j];
        }

        /** LEAST of the first COLOURS of a row. */
        float leastOf(int[] some, int length) {
            if (length < 2) {
                return 0f;
            }
            float smallest = gap(some[0], some[1]);
            for (int i = 0; i < length; i++) {
                for (int j = i + 1; j < length; j++) {
                    float gap = gap(some[i], some[j]);
                    smallest = gap < smallest ? gap : smallest;
                }
            }
            return smallest;
        }

        int nearestPlaces(Scene s) {
            int found = NONE;
            float smallest = 0f;
            for (int i = 0; i < s.rowLength; i++) {
                for (int j = i + 1; j < s.rowLength; j++) {
                    float gap = gap(s.row[i], s.row[j]);
                    if (found == NONE || gap < smallest) {
                        found = 10 * i + j;
                        smallest = gap;
                    }
                }
            }
            return found;
        }

        void fill(Scene s, int n) {
            measure(s);
            s.rowLength = 0;
            for (int i = 0; i < s.colours; i++) {
                if (s.isFixed(i)) {
                    s.putIntoRow(i);
                }
            }
            int fitting = s.fitBits();
            for (int length = s.rowLength; length < n; length++) {
                int next = nextOne(s, fitting & ~s.rowBits());
                if (next == NONE) {
                    return;
                }
                s.putIntoRow(next);
            }
        }

        /** Which one of some COLOURS comes next: the lightest into an empty row, else the farthest. */
        private int nextOne(Scene s, int among) {
            int found = NONE;
            float greatest = 0f;
            for (int i = 0; i < s.colours; i++) {
                if ((among >> i & 1) == 1) {
                    float rank = s.rowLength == 0 ? s.lightOf(i) : gapToRow(s, i);
                    if (found == NONE || rank > greatest) {
                        found = i;
                        greatest = rank;
                    }
                }
            }
            return found;
        }

        private float gapToRow(Scene s, int i) {
            float smallest = gap(i, s.row[0]);
            for (int place = 1; place < s.rowLength; place++) {
                float gap = gap(i, s.row[place]);
                smallest = gap < smallest ? gap : smallest;
            }
            return smallest;
        }

        int swapAll(Scene s) {
            measure(s);
            int fitting = s.fitBits();
            int done = 0;
            while (done < MOST_SWAPS && swapOne(s, fitting & ~s.rowBits())) {
                done++;
            }
            return done;
        }

        private boolean swapOne(Scene s, int among) {
            float before = leastOf(s.row, s.rowLength);
            for (int place = 0; place < s.rowLength; place++) {
                int old = s.row[place];
                for (int i = 0; i < s.colours && !s.isFixed(old); i++) {
                    if ((among >> i & 1) == 1) {
                        s.row[place] = i;
                        if (leastOf(s.row, s.rowLength) > before) {
                            return true;
                        }
                    }
                }
                s.row[place] = old;
            }
            return false;
        }

        /** Goes through the sets of n by rising bits, so that of like ones the first is the least. */
        int bestSet(Scene s, int n) {
            measure(s);
            int allowed = s.fitBits() | s.fixedBits;
            int found = NONE;
            float greatest = 0f;
            int set = (1 << n) - 1;
            for (int tries = 0; tries < MOST_SETS && set < 1 << s.colours; tries++) {
                if ((set & ~allowed) == 0 && (s.fixedBits & ~set) == 0) {
                    float own = leastOf(members, listMembers(set));
                    if (found == NONE || own > greatest) {
                        found = set;
                        greatest = own;
                    }
                }
                set = nextOfLikeSize(set);
            }
            return found;
        }

        private int listMembers(int set) {
            int length = 0;
            for (int i = 0; i < MOST_COLOURS && length < members.length; i++) {
                if ((set >> i & 1) == 1) {
                    members[length] = i;
                    length++;
                }
            }
            return length;
        }

        /** The next greater number with as many bits: the lowest run's top bit rises, the rest fall down. */
        private static int nextOfLikeSize(int set) {
            int lowest = set & -set;
            int raised = set + lowest;
            int fallen = (set ^ raised) >>> (2 + Integer.bitCount(lowest - 1));
            return raised | fallen;
        }
    }

    /**
     * THE TEXT and the ORDERS read from it. Each reading step that fails leaves `at` at the FAULT: the
     * byte that can not stand there, or the TEXT's end.
     */
    private static final class Script {
        private final int[] bytes;
        private int length;
        private int at;
        private int orders;
        private final int[] kinds;
        private final int[] firsts;
        private final int[] seconds;

        Script() {
            bytes = new int[MOST_BYTES];
            length = 0;
            at = 0;
            orders = 0;
            kinds = new int[MOST_ORDERS];
            firsts = new int[MOST_ORDERS];
            seconds = new int[MOST_ORDERS];
        }

        int append(int c) {
            if (length < bytes.length) {
                bytes[length] = c;
                length++;
            }
            return length;
        }

        /** Reads THE TEXT whole: the FAULT, or NONE. */
        int read() {
            at = 0;
            orders = 0;
            skipBlanks();
            if (at == length) {
                return length;
            }
            while (at < length && orders < MOST_ORDERS) {
                if (!readOrder()) {
                    return at;
                }
                orders++;
                skipBlanks();
            }
            return NONE;
        }

        private boolean readOrder() {
            int kind = byteHere();
            kinds[orders] = kind;
            switch (kind) {
                case 'c':
                    at++;
                    return readSixFigures() && readEnd();
                case 'f':
                case 'l':
                    at++;
                    return readNumber(firsts) && readNumber(seconds) && readEnd();
                case 'p':
                    at++;
                    return readNumber(firsts) && readEnd();
                case 's':
                    at++;
                    return readEnd();
                default:
                    return false;
            }
        }

        private boolean readSixFigures() {
            skipBlanks();
            int value = 0;
            for (int figures = 0; figures < 6; figures++) {
                int figure = figureOf(byteHere());
                if (figure == NONE) {
                    return false;
                }
                value = 16 * value + figure;
                at++;
            }
            firsts[orders] = value;
            return true;
        }

        /** A fourth figure is a FAULT at once; it does not begin the next number. */
        private boolean readNumber(int[] into) {
            skipBlanks();
            int value = 0;
            int figures = 0;
            while (figures < 3 && isTenFigure(byteHere())) {
                value = 10 * value + figureOf(byteHere());
                figures++;
                at++;
            }
            into[orders] = value;
            return figures > 0 && !isTenFigure(byteHere());
        }

        private boolean readEnd() {
            skipBlanks();
            if (byteHere() != ';') {
                return false;
            }
            at++;
            return true;
        }

        private void skipBlanks() {
            while (at < length && byteHere() == ' ') {
                at++;
            }
        }

        private int byteHere() {
            return at < length ? bytes[at] : NONE;
        }

        private static boolean isTenFigure(int c) {
            return c >= '0' && c <= '9';
        }

        private static int figureOf(int c) {
            if (isTenFigure(c)) {
                return c - '0';
            }
            return c >= 'a' && c <= 'f' ? c - 'a' + 10 : NONE;
        }
    }
}
