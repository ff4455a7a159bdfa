import java.util.Random;

/** All promises: long runs of made-up calls, each answered alike by HuesApart and by PlainHues. */
public final class AgreementTest {
    private static final Check check = new Check("AgreementTest");
    private static final int RUNS = 400;
    /** The digest at the end of a run is the 512th call, behind which nothing is promised. */
    private static final int CALLS = 511;
    private static final String[] NAMES = {
        "colour", "paints", "ground", "eye", "sets", "fixes", "of", "look", "light", "seen", "distance", "apart",
        "fills", "swaps", "palette", "least", "nearest", "best", "mistaken", "count", "does", "back", "told", "digest"};
    private static final int[] EXTREMES = {Integer.MIN_VALUE, Integer.MAX_VALUE, -1, 256, 1 << 30, -300, 301, 10000, 20, 9};

    private final Random dice;
    private final Hues real = new Hues();
    private final PlainHues plain = new PlainHues();
    /** Channels come from few or many values, so that some runs are full of like ones. */
    private final int grain;
    private final boolean wild;
    private int left = CALLS;

    private AgreementTest(int seed) {
        dice = new Random(seed);
        grain = new int[] {1, 1, 5, 51, 85, 255}[seed % 6];
        wild = seed % 4 == 3;
    }

    public static void main(String[] args) {
        for (int seed = 0; seed < RUNS; seed++) {
            new AgreementTest(seed).run(seed);
        }
        check.end();
    }

    private void run(int seed) {
        int first = dice.nextInt(21);
        for (int i = 0; i < first; i++) {
            ask(seed, "colour", channel(), channel(), channel(), 0);
        }
        while (left > 0) {
            if (dice.nextInt(12) == 0 && left > 125) {
                typeAndDo(seed);
            } else {
                one(seed, NAMES[dice.nextInt(NAMES.length)]);
            }
        }
        check.due("run " + seed + ": digest at the end", real.digest(), plain.call("digest", 0, 0, 0, 0));
    }

    private void ask(int seed, String name, int a, int b, int c, int d) {
        left--;
        check.due("run " + seed + ": " + name + "(" + a + ", " + b + ", " + c + ", " + d + ")",
            answer(name, a, b, c, d), plain.call(name, a, b, c, d));
    }

    private int channel() {
        return grain * dice.nextInt(255 / grain + 1);
    }

    private int colour() {
        int some = (int) plain.call("count", 0, 0, 0, 0);
        return dice.nextInt(Math.max(some, 1) + (dice.nextInt(10) == 0 ? 1 : 0));
    }

    private int limit(int what) {
        return what == 0 ? dice.nextInt(120) : what == 1 ? 120 + dice.nextInt(136) : dice.nextInt(40);
    }

    private int wild(int usual) {
        return dice.nextInt(wild ? 8 : 40) == 0 ? EXTREMES[dice.nextInt(EXTREMES.length)] : usual;
    }

    private void one(int seed, String name) {
        switch (name) {
            case "colour": case "ground":
                ask(seed, name, wild(channel()), wild(channel()), wild(channel()), 0);
                break;
            case "paints":
                ask(seed, name, wild(colour()), wild(channel()), wild(channel()), wild(channel()));
                break;
            case "eye":
                int k = dice.nextInt(3) == 0 ? 12 : dice.nextInt(13);
                int v = k < 9 ? dice.nextInt(601) - 300 : k < 12 ? dice.nextInt(10) : dice.nextInt(2);
                ask(seed, name, wild(dice.nextInt(4)), wild(k), wild(v), 0);
                break;
            case "sets":
                int what = dice.nextInt(3);
                ask(seed, name, wild(what), wild(limit(what)), 0, 0);
                break;
            case "fixes":
                ask(seed, name, wild(colour()), wild(dice.nextInt(4) == 0 ? 1 : 0), 0, 0);
                break;
            case "mistaken":
                ask(seed, name, wild(dice.nextInt(4)), wild(dice.nextInt(10000)), 0, 0);
                break;
            default:
                small(seed, name);
        }
    }

    private void small(int seed, String name) {
        switch (name) {
            case "of":
                ask(seed, name, wild(colour()), wild(dice.nextInt(6)), 0, 0);
                break;
            case "look":
                ask(seed, name, wild(dice.nextInt(4)), wild(dice.nextInt(13)), 0, 0);
                break;
            case "seen":
                ask(seed, name, wild(dice.nextInt(4)), wild(colour()), wild(dice.nextInt(3)), 0);
                break;
            case "distance":
                ask(seed, name, wild(dice.nextInt(4)), wild(colour()), wild(colour()), 0);
                break;
            case "light": case "apart":
                ask(seed, name, wild(colour()), wild(colour()), 0, 0);
                break;
            case "best":
                ask(seed, name, wild(1 + dice.nextInt(4)), 0, 0, 0);
                break;
            default:
                ask(seed, name, wild(dice.nextInt(9)), 0, 0, 0);
        }
    }

    private void typeAndDo(int seed) {
        ask(seed, "clear", 0, 0, 0, 0);
        StringBuilder text = new StringBuilder();
        int orders = dice.nextInt(8);
        for (int k = 0; k < orders; k++) {
            text.append(blanks()).append(order()).append(blanks()).append(';');
        }
        text.append(blanks());
        if (dice.nextInt(4) == 0 && text.length() > 0) {
            spoil(text);
        }
        for (int k = 0; k < text.length() && left > 2; k++) {
            ask(seed, "type", text.charAt(k), 0, 0, 0);
        }
        ask(seed, "does", 0, 0, 0, 0);
    }

    private String blanks() {
        return " ".repeat(Math.max(0, dice.nextInt(6) - 3));
    }

    private String order() {
        switch (dice.nextInt(5)) {
            case 0:
                return "c" + blanks() + String.format("%02x%02x%02x", channel(), channel(), channel());
            case 1:
                return "f" + blanks() + colour() + " " + blanks() + dice.nextInt(dice.nextInt(9) == 0 ? 3 : 2);
            case 2:
                return "l" + blanks() + limit(0) + " " + blanks() + (limit(1) + (dice.nextInt(9) == 0 ? 60 : 0));
            case 3:
                return "p" + blanks() + (1 + dice.nextInt(dice.nextInt(9) == 0 ? 12 : 8));
            default:
                return "s";
        }
    }

    private void spoil(StringBuilder text) {
        String bytes = "cflps;  0019afgAF?";
        int at = dice.nextInt(text.length());
        char c = bytes.charAt(dice.nextInt(bytes.length()));
        switch (dice.nextInt(3)) {
            case 0:
                text.setCharAt(at, c);
                break;
            case 1:
                text.insert(at, c);
                break;
            default:
                text.deleteCharAt(at);
        }
    }

    private long answer(String name, int a, int b, int c, int d) {
        switch (name) {
            case "colour": return real.colour(a, b, c);
            case "paints": return real.paints(a, b, c, d);
            case "ground": return real.ground(a, b, c);
            case "eye": return real.eye(a, b, c);
            case "sets": return real.sets(a, b);
            case "fixes": return real.fixes(a, b);
            case "of": return real.of(a, b);
            case "look": return real.look(a, b);
            case "light": return real.light(a);
            case "seen": return real.seen(a, b, c);
            case "distance": return real.distance(a, b, c);
            case "apart": return real.apart(a, b);
            case "fills": return real.fills(a);
            case "swaps": return real.swaps();
            case "palette": return real.palette(a);
            case "least": return real.least();
            case "nearest": return real.nearest();
            case "best": return real.best(a);
            case "mistaken": return real.mistaken(a, b);
            case "count": return real.count(a);
            case "type": return real.type(a);
            case "clear": return real.clear();
            case "does": return real.does();
            case "back": return real.back();
            case "told": return real.told(a);
            default: return real.digest();
        }
    }
}
