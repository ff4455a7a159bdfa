import java.util.ArrayList;
import java.util.List;
import java.util.TreeSet;

/**
 * A second reading of the document, as plain as can be and with the whole library at hand. It shares no
 * code with HuesApart, so that a slip of one of them shows as a difference (AgreementTest).
 */
final class PlainHues {
    static final class Colour {
        int r, g, b;

        Colour(int r, int g, int b) {
            this.r = r;
            this.g = g;
            this.b = b;
        }
    }

    static final class World {
        List<Colour> colours = new ArrayList<>();
        Colour ground = new Colour(255, 255, 255);
        int[][] eyes = new int[4][];
        int[] limits = {0, 255, 0};
        TreeSet<Integer> fixed = new TreeSet<>();
        List<Integer> palette = new ArrayList<>();

        World() {
            for (int e = 0; e < 4; e++) {
                eyes[e] = new int[] {100, 0, 0, 0, 100, 0, 0, 0, 100, 1, 1, 1, e == 0 ? 1 : 0};
            }
        }

        World copy() {
            World w = new World();
            for (Colour c : colours) {
                w.colours.add(new Colour(c.r, c.g, c.b));
            }
            w.ground = new Colour(ground.r, ground.g, ground.b);
            for (int e = 0; e < 4; e++) {
                w.eyes[e] = eyes[e].clone();
            }
            w.limits = limits.clone();
            w.fixed = new TreeSet<>(fixed);
            w.palette = new ArrayList<>(palette);
            return w;
        }

        float light(Colour c) {
            return (0.299f * (float) c.r + 0.587f * (float) c.g) + 0.114f * (float) c.b;
        }

        float seen(int e, int i, int k) {
            Colour c = colours.get(i);
            float x = (float) eyes[e][3 * k] / 100f;
            float y = (float) eyes[e][3 * k + 1] / 100f;
            float z = (float) eyes[e][3 * k + 2] / 100f;
            return (x * (float) c.r + y * (float) c.g) + z * (float) c.b;
        }

        float distance(int e, int i, int j) {
            float[] parts = new float[3];
            for (int k = 0; k < 3; k++) {
                float d = seen(e, i, k) - seen(e, j, k);
                parts[k] = (float) eyes[e][9 + k] * (d * d);
            }
            return (parts[0] + parts[1]) + parts[2];
        }

        float apart(int i, int j) {
            float least = Float.POSITIVE_INFINITY;
            for (int e = 0; e < 4; e++) {
                if (eyes[e][12] == 1) {
                    least = Math.min(least, distance(e, i, j));
                }
            }
            return least == Float.POSITIVE_INFINITY ? 0f : least;
        }

        boolean fits(int i) {
            float l = light(colours.get(i));
            return l >= limits[0] && l <= limits[1] && Math.abs(l - light(ground)) >= limits[2];
        }

        float least(List<Integer> some) {
            float least = Float.POSITIVE_INFINITY;
            for (int a : some) {
                for (int b : some) {
                    if (a != b) {
                        least = Math.min(least, apart(a, b));
                    }
                }
            }
            return some.size() < 2 ? 0f : least;
        }

        void fill(int n) {
            palette = new ArrayList<>(fixed);
            if (palette.isEmpty()) {
                int first = -1;
                for (int i = colours.size() - 1; i >= 0; i--) {
                    if (fits(i) && (first < 0 || light(colours.get(i)) >= light(colours.get(first)))) {
                        first = i;
                    }
                }
                if (first < 0) {
                    return;
                }
                palette.add(first);
            }
            while (palette.size() < n) {
                int next = -1;
                float far = -1f;
                for (int i = 0; i < colours.size(); i++) {
                    if (fits(i) && !palette.contains(i)) {
                        float near = Float.POSITIVE_INFINITY;
                        for (int p : palette) {
                            near = Math.min(near, apart(i, p));
                        }
                        if (near > far) {
                            far = near;
                            next = i;
                        }
                    }
                }
                if (next < 0) {
                    return;
                }
                palette.add(next);
            }
        }

        int swapAll() {
            int done = 0;
            while (done < 60) {
                List<Integer> better = better();
                if (better == null) {
                    break;
                }
                palette = better;
                done++;
            }
            return done;
        }

        private List<Integer> better() {
            for (int place = 0; place < palette.size(); place++) {
                for (int i = 0; i < colours.size(); i++) {
                    if (!fixed.contains(palette.get(place)) && fits(i) && !palette.contains(i)) {
                        List<Integer> other = new ArrayList<>(palette);
                        other.set(place, i);
                        if (least(other) > least(palette)) {
                            return other;
                        }
                    }
                }
            }
            return null;
        }

        private int bestBits;
        private float bestLeast;

        int best(int n) {
            bestBits = -1;
            bestLeast = -1f;
            choose(new ArrayList<>(), 0, n);
            return bestBits;
        }

        private void choose(List<Integer> taken, int from, int n) {
            if (taken.size() == n) {
                weigh(taken);
                return;
            }
            for (int i = from; i < colours.size(); i++) {
                if (fits(i) || fixed.contains(i)) {
                    taken.add(i);
                    choose(taken, i + 1, n);
                    taken.remove(taken.size() - 1);
                }
            }
        }

        private void weigh(List<Integer> taken) {
            if (!taken.containsAll(fixed)) {
                return;
            }
            int bits = 0;
            for (int i : taken) {
                bits += 1 << i;
            }
            float own = least(taken);
            if (own > bestLeast || own == bestLeast && bits < bestBits) {
                bestLeast = own;
                bestBits = bits;
            }
        }
    }

    private World w = new World();
    private final List<World> states = new ArrayList<>();
    private final int[] refused = new int[3];
    private String text = "";

    private int refuse(int why) {
        refused[-2 - why]++;
        return why;
    }

    private void leave() {
        leave(w.copy());
    }

    private void leave(World old) {
        states.add(old);
        if (states.size() > 5) {
            states.remove(0);
        }
    }

    private static boolean in(int v, int a, int b) {
        return a <= v && v <= b;
    }

    private boolean isColour(int i) {
        return in(i, 0, w.colours.size() - 1);
    }

    private static int bits(float f) {
        return Float.floatToIntBits(f);
    }

    /** One call by its name; the answer. */
    long call(String name, int a, int b, int c, int d) {
        switch (name) {
            case "colour": case "paints": case "ground": case "eye": case "sets": case "fixes":
                return change(name, a, b, c, d);
            case "of": case "look": case "light": case "seen": case "distance": case "apart":
                return view(name, a, b, c);
            case "fills": case "swaps": case "palette": case "least": case "nearest": case "best":
            case "mistaken": case "count":
                return palettes(name, a, b);
            default:
                return texts(name, a);
        }
    }

    private int change(String name, int a, int b, int c, int d) {
        boolean rgbOfABC = in(a, 0, 255) && in(b, 0, 255) && in(c, 0, 255);
        switch (name) {
            case "colour": {
                if (!rgbOfABC) return refuse(-2);
                if (w.colours.size() == 20) return refuse(-4);
                leave();
                w.colours.add(new Colour(a, b, c));
                return w.colours.size() - 1;
            }
            case "paints": {
                if (!isColour(a) || !in(b, 0, 255) || !in(c, 0, 255) || !in(d, 0, 255)) return refuse(-2);
                leave();
                return repaint(w.colours.get(a), b, c, d);
            }
            case "ground": {
                if (!rgbOfABC) return refuse(-2);
                leave();
                return repaint(w.ground, a, b, c);
            }
            case "eye": {
                if (!in(a, 0, 3) || !in(b, 0, 12)) return refuse(-2);
                if (b < 9 && !in(c, -300, 300) || b > 8 && b < 12 && !in(c, 0, 9) || b == 12 && !in(c, 0, 1)) return refuse(-2);
                leave();
                int old = w.eyes[a][b];
                w.eyes[a][b] = c;
                return old;
            }
            case "sets": {
                if (!in(a, 0, 2) || !in(b, 0, 255)) return refuse(-2);
                leave();
                int old = w.limits[a];
                w.limits[a] = b;
                return old;
            }
            default: {
                if (!isColour(a) || !in(b, 0, 1)) return refuse(-2);
                leave();
                if (b == 1) w.fixed.add(a); else w.fixed.remove(a);
                return w.fixed.size();
            }
        }
    }

    private static int repaint(Colour c, int r, int g, int b) {
        int other = 0;
        if (c.r != r) other++;
        if (c.g != g) other++;
        if (c.b != b) other++;
        c.r = r;
        c.g = g;
        c.b = b;
        return other;
    }

    private int view(String name, int a, int b, int c) {
        switch (name) {
            case "of":
                if (!isColour(a) || !in(b, 0, 5)) return refuse(-2);
                Colour own = w.colours.get(a);
                return new int[] {own.r, own.g, own.b, w.fixed.contains(a) ? 1 : 0, w.fits(a) ? 1 : 0, w.palette.indexOf(a)}[b];
            case "look":
                return in(a, 0, 3) && in(b, 0, 12) ? w.eyes[a][b] : refuse(-2);
            case "light":
                return isColour(a) ? bits(w.light(w.colours.get(a))) : refuse(-2);
            case "seen":
                return in(a, 0, 3) && isColour(b) && in(c, 0, 2) ? bits(w.seen(a, b, c)) : refuse(-2);
            case "distance":
                return in(a, 0, 3) && isColour(b) && isColour(c) ? bits(w.distance(a, b, c)) : refuse(-2);
            default:
                return isColour(a) && isColour(b) ? bits(w.apart(a, b)) : refuse(-2);
        }
    }

    private int palettes(String name, int a, int b) {
        switch (name) {
            case "fills":
                if (!in(a, 1, 8)) return refuse(-2);
                if (w.fixed.size() > a) return refuse(-3);
                leave();
                w.fill(a);
                return w.palette.size();
            case "swaps":
                leave();
                return w.swapAll();
            case "palette":
                if (a < 0) return refuse(-2);
                return a < w.palette.size() ? w.palette.get(a) : -1;
            case "least":
                return bits(w.least(w.palette));
            case "nearest":
                return nearest();
            case "best":
                return in(a, 1, 4) ? w.best(a) : refuse(-2);
            case "mistaken":
                return in(a, 0, 3) && in(b, 0, 9999) ? mistaken(a, b) : refuse(-2);
            default:
                return in(a, 0, 7) ? count(a) : refuse(-2);
        }
    }

    private int nearest() {
        for (int i = 0; i < w.palette.size(); i++) {
            for (int j = i + 1; j < w.palette.size(); j++) {
                if (w.apart(w.palette.get(i), w.palette.get(j)) == w.least(w.palette)) {
                    return 10 * i + j;
                }
            }
        }
        return -1;
    }

    private int mistaken(int e, int v) {
        int pairs = 0;
        for (int p : w.palette) {
            for (int q : w.palette) {
                if (p < q && w.distance(e, p, q) < (float) v) {
                    pairs++;
                }
            }
        }
        return pairs;
    }

    private int count(int what) {
        int fit = 0;
        for (int i = 0; i < w.colours.size(); i++) {
            fit += w.fits(i) ? 1 : 0;
        }
        int fixed = 0;
        for (int i : w.fixed) {
            fixed |= 1 << i;
        }
        int counting = w.eyes[0][12] + 2 * w.eyes[1][12] + 4 * w.eyes[2][12] + 8 * w.eyes[3][12];
        return new int[] {w.colours.size(), fit, fixed, w.palette.size(), counting, w.ground.r, w.ground.g, w.ground.b}[what];
    }

    private long texts(String name, int a) {
        switch (name) {
            case "type":
                if (!in(a, 0, 127)) return refuse(-2);
                if (text.length() == 120) return refuse(-4);
                text += (char) a;
                return text.length();
            case "clear":
                int had = text.length();
                text = "";
                return had;
            case "does":
                return does();
            case "back":
                if (states.isEmpty()) return refuse(-3);
                w = states.remove(states.size() - 1);
                return states.size();
            case "told":
                return in(a, 0, 7) ? told(a) : refuse(-2);
            default:
                return digest();
        }
    }

    private int told(int what) {
        return new int[] {refused[0], refused[1], refused[2], w.limits[0], w.limits[1], w.limits[2], text.length(), states.size()}[what];
    }

    private long digest() {
        List<Integer> all = new ArrayList<>();
        for (int k = 0; k < 8; k++) all.add(told(k));
        for (int k = 0; k < 8; k++) all.add(count(k));
        for (int i = 0; i < w.colours.size(); i++) {
            for (int k = 0; k < 6; k++) all.add(view("of", i, k, 0));
            all.add(view("light", i, 0, 0));
        }
        for (int[] eye : w.eyes) for (int v : eye) all.add(v);
        all.addAll(w.palette);
        all.add(bits(w.least(w.palette)));
        all.add(nearest());
        long h = 2619;
        for (int v : all) h = 31 * h + v;
        return h;
    }

    // THE TEXT is matched as a whole by a pattern; the FAULT is the longest start of it that could go on.

    private static final String ORDER =
        " *(c *[0-9a-f]{6}|[fl] *[0-9]{1,3} +[0-9]{1,3}|p *[0-9]{1,3}|s) *;";
    private static final java.util.regex.Pattern WHOLE = java.util.regex.Pattern.compile("(" + ORDER + ")+ *");

    private int fault() {
        if (WHOLE.matcher(text).matches()) {
            return -1;
        }
        for (int length = 1; length <= text.length(); length++) {
            if (!canGoOn(text.substring(0, length))) {
                return length - 1;
            }
        }
        return text.length();
    }

    private static boolean canGoOn(String start) {
        java.util.regex.Matcher m = java.util.regex.Pattern.compile("(" + ORDER + ")* *").matcher(start);
        return m.matches() || m.hitEnd();
    }

    private int does() {
        int fault = fault();
        if (fault >= 0) {
            return -10 - fault;
        }
        World old = w.copy();
        int[] counts = refused.clone();
        List<World> kept = new ArrayList<>(states);
        int done = 0;
        String[] parts = text.split(";");
        for (String part : parts) {
            String order = part.trim();
            if (order.isEmpty()) {
                continue;
            }
            boolean fine = obey(order.charAt(0), order.substring(1).trim());
            System.arraycopy(counts, 0, refused, 0, 3);
            states.clear();
            states.addAll(kept);
            if (!fine) {
                w = old;
                return -1000 - done;
            }
            done++;
        }
        leave(old);
        return done;
    }

    private boolean obey(char kind, String rest) {
        if (kind == 'c') {
            int v = Integer.parseInt(rest, 16);
            return call("colour", v / 65536, v / 256 % 256, v % 256, 0) >= 0;
        }
        if (kind == 's') {
            return call("swaps", 0, 0, 0, 0) >= 0;
        }
        String[] numbers = rest.split(" +");
        int first = Integer.parseInt(numbers[0]);
        if (kind == 'p') {
            return call("fills", first, 0, 0, 0) >= 0;
        }
        int second = Integer.parseInt(numbers[1]);
        if (kind == 'f') {
            return call("fixes", first, second, 0, 0) >= 0;
        }
        return call("sets", 0, first, 0, 0) >= 0 && call("sets", 1, second, 0, 0) >= 0;
    }
}
