import java.util.function.Consumer;

/** What has gone before a call. Made anew for each question, so that each has its 512 calls before it. */
enum Situation {
    NEW(x -> { }),
    BUSY(Situation::makeBusy),
    CROWDED(Situation::makeCrowded);

    /** ORDERS that would change something in BUSY, so that a byte lost or moved shows by does(). */
    static final String BUSY_TEXT = " c0a0b0c;f 0 1 ;l 7 99;p3;";
    static final int BUSY_COLOURS = 4;

    private final Consumer<Hues> steps;

    Situation(Consumer<Hues> steps) {
        this.steps = steps;
    }

    Hues make() {
        Hues x = new Hues();
        steps.accept(x);
        return x;
    }

    int colours() {
        return this == NEW ? 0 : this == BUSY ? BUSY_COLOURS : 20;
    }

    /** Each of the five STATES differs from the next one in another thing; two are FIXED, three are in it. */
    private static void makeBusy(Hues x) {
        x.colour(10, 20, 30);
        x.colour(200, 210, 220);
        x.colour(90, 0, 250);
        x.colour(255, 128, 0);
        x.sets(0, 5);
        x.sets(1, 240);
        x.fixes(0, 1);
        x.write(BUSY_TEXT);
        x.told(8);
        x.sets(2, 3);
        x.ground(1, 2, 3);
        x.eye(1, 12, 1);
        x.fixes(2, 1);
        x.fills(3);
        x.fills(1);
    }

    /** As many COLOURS, bytes and STATES as can be; more are FIXED than any n of fills. */
    private static void makeCrowded(Hues x) {
        for (int i = 0; i < 20; i++) {
            x.colour(13 * i, 255 - 12 * i, i % 7 * 30);
        }
        x.fills(8);
        for (int i = 0; i < 9; i++) {
            x.fixes(2 * i, 1);
        }
        x.swaps();
        x.eye(2, 4, -77);
        x.paints(19, 1, 2, 3);
        x.write("f 1 1;".repeat(20));
    }
}
