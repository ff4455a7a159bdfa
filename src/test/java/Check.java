import java.util.function.ToIntFunction;

/** Counts the answers that are not the ones that are due, and ends a test's main by them. */
final class Check {
    /** Some hundred times what the longest test takes. */
    private static final long MOST_MILLISECONDS = 300_000;

    private final String test;
    private int asked;
    private int wrong;

    Check(String test) {
        this.test = test;
        watch();
    }

    /** A call that fails to end would else hold up all other tests. */
    private void watch() {
        Thread watcher = new Thread(() -> {
            try {
                Thread.sleep(MOST_MILLISECONDS);
            } catch (InterruptedException ended) {
                return;
            }
            System.out.println(test + ": a call does not end");
            Runtime.getRuntime().halt(1);
        });
        watcher.setDaemon(true);
        watcher.start();
    }

    void due(String what, long got, long want) {
        asked++;
        if (got != want) {
            wrong++;
            System.out.println(test + ": " + what + " answered " + got + ", due is " + want);
        }
    }

    /** For answers that are a float's bits. */
    void dueFloat(String what, int got, float want) {
        due(what, got, Float.floatToIntBits(want));
    }

    void dueRow(String what, Hues x, int... want) {
        due(what + ": length", x.count(3), want.length);
        for (int place = 0; place < want.length; place++) {
            due(what + ": palette(" + place + ")", x.palette(place), want[place]);
            due(what + ": place of " + want[place], x.of(want[place], 5), place);
        }
        due(what + ": behind it", x.palette(want.length), HuesApart.NONE);
    }

    void like(String what, Hues x, Hues twin) {
        like(what, new Snapshot(x), new Snapshot(twin));
    }

    void like(String what, Snapshot got, Snapshot want) {
        asked++;
        String difference = got.difference(want);
        if (!difference.isEmpty()) {
            wrong++;
            System.out.println(test + ": " + what + ": " + difference);
        }
    }

    /** That a call is refused, is counted as such, and changes nothing else that told() tells. */
    void refused(String what, Hues x, int why, ToIntFunction<Hues> call) {
        int slot = HuesApart.BAD - why;
        int[] before = new int[8];
        for (int k = 0; k < 8; k++) {
            before[k] = x.told(k);
        }
        due(what, call.applyAsInt(x), why);
        for (int k = 0; k < 8; k++) {
            due(what + ", then told(" + k + ")", x.told(k), before[k] + (k == slot ? 1 : 0));
        }
    }

    /**
     * That a call is refused and leaves all as it was but how often: what the getters tell, each STATE to
     * go back to, and THE TEXT. A twin that is not asked the call shows how it was.
     */
    void refusedIn(Situation situation, String what, int why, ToIntFunction<Hues> call) {
        String where = situation + ": " + what;
        Hues x = situation.make();
        Hues twin = situation.make();
        due(where, call.applyAsInt(x), why);
        for (int k = 0; k < 3; k++) {
            due(where + ", then told(" + k + ")", x.told(k), twin.told(k) + (HuesApart.BAD - why == k ? 1 : 0));
        }
        like(where, x, twin);
        int states = twin.told(7);
        for (int steps = 1; steps <= states; steps++) {
            x = situation.make();
            twin = situation.make();
            call.applyAsInt(x);
            for (int step = 0; step < steps; step++) {
                due(where + ", then back()", x.back(), twin.back());
            }
            like(where + ", then back() " + steps + " times", x, twin);
        }
        x = situation.make();
        twin = situation.make();
        call.applyAsInt(x);
        due(where + ", then does()", x.does(), twin.does());
        like(where + ", then does()", x, twin);
    }

    /** That a call counts as no refusal of any kind; what it answered. */
    int notRefused(String what, Hues x, ToIntFunction<Hues> call) {
        int[] before = {x.told(0), x.told(1), x.told(2)};
        int answer = call.applyAsInt(x);
        for (int k = 0; k < 3; k++) {
            due(what + ", then told(" + k + ")", x.told(k), before[k]);
        }
        return answer;
    }

    void end() {
        System.out.println(test + ": " + asked + " answers, " + wrong + " wrong");
        if (wrong != 0 || asked == 0) {
            System.exit(1);
        }
    }
}
