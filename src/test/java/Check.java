/** Counts the answers that are not the ones that are due, and ends a test's main by them. */
final class Check {
    private final String test;
    private int asked;
    private int wrong;

    Check(String test) {
        this.test = test;
    }

    void due(String what, long got, long want) {
        asked++;
        if (got != want) {
            wrong++;
            System.out.println(test + ": " + what + " answered " + got + ", due is " + want);
        }
    }

    /** For answers that are a float's bits. */
    void dueFloat(String what, int got, float want) {
        due(what, got, Float.floatToIntBits(want));
    }

    /** That a call is refused, is counted as such, and changes nothing else. */
    void refused(String what, HuesApart x, int why, java.util.function.ToIntFunction<HuesApart> call) {
        int slot = HuesApart.BAD - why;
        int[] before = new int[8];
        for (int k = 0; k < 8; k++) {
            before[k] = x.told(k);
        }
        due(what, call.applyAsInt(x), why);
        for (int k = 0; k < 8; k++) {
            due(what + ", then told(" + k + ")", x.told(k), before[k] + (k == slot ? 1 : 0));
        }
    }

    void end() {
        System.out.println(test + ": " + asked + " answers, " + wrong + " wrong");
        if (wrong != 0 || asked == 0) {
            System.exit(1);
        }
    }
}
