/** Promises 22 to 27: type, clear, does, back, told, digest. */
public final class TextsTest {
    private static final Check check = new Check("TextsTest");

    public static void main(String[] args) {
        typeAndClear();
        orders();
        faults();
        ordersThatEndAll();
        nothingCounts();
        longTexts();
        back();
        backAfterTextsThatDidNothing();
        told();
        digest();
        check.end();
    }

    private static void typeAndClear() {
        Hues x = new Hues();
        check.due("nothing to clear", x.clear(), 0);
        check.refused("c", x, HuesApart.BAD, y -> y.type(-1));
        check.refused("c", x, HuesApart.BAD, y -> y.type(128));
        for (int k = 1; k <= 120; k++) {
            check.due("type", x.type(k == 1 ? 0 : 127), k);
        }
        check.refused("the 121st", x, HuesApart.FULL, y -> y.type(32));
        check.refused("BAD comes before FULL", x, HuesApart.BAD, y -> y.type(128));
        check.due("no STATE", x.told(7), 0);
        check.due("clear()", x.clear(), 120);
        check.due("no STATE", x.told(7), 0);
        check.due("bytes", x.told(6), 0);
        check.due("type", x.type(1), 1);
    }

    private static void orders() {
        Hues x = new Hues();
        check.due("a COLOUR", x.doText("c01abef;"), 1);
        check.due("R", x.of(0, 0), 0x01);
        check.due("G", x.of(0, 1), 0xab);
        check.due("B", x.of(0, 2), 0xef);
        check.due("THE TEXT stays", x.told(6), 8);
        check.due("once more", x.does(), 1);
        check.due("COLOURS", x.count(0), 2);
        check.due("blanks anywhere", x.doText("  c  102030  ;  f 0 1;f 1 001 ; f0  0;  "), 4);
        check.due("FIXED", x.count(2), 2);
        check.due("limits", x.doText("l5 200;l 007 20;"), 2);
        check.due("LOW", x.told(3), 7);
        check.due("HIGH", x.told(4), 20);
        check.due("LOW above HIGH", x.doText("l255 0;"), 1);
        check.due("LOW", x.told(3), 255);
        check.due("HIGH", x.told(4), 0);
        check.due("fills, swaps", x.doText("l0 255;cffffff;c000000;f1 0;p 3 ; s ;"), 6);
        check.due("palette", x.palette(0), 3);
        check.due("palette", x.palette(1), 4);
        check.due("one STATE for all", x.told(7), 5);
        x.back();
        check.due("all of them back", x.count(0), 3);
        check.due("all of them back", x.told(3), 255);
        check.due("all of them back", x.count(3), 0);
    }

    private static void fault(String text, int place) {
        Hues x = new Hues();
        x.colour(0, 0, 0);
        check.due("'" + text + "'", x.doText(text), -10 - place);
        check.due("'" + text + "': no STATE", x.told(7), 1);
        check.due("'" + text + "': COLOURS", x.count(0), 1);
        check.due("'" + text + "': THE TEXT stays", x.told(6), text.length());
        check.due("'" + text + "': BAD", x.told(0), 0);
    }

    private static void faults() {
        fault("", 0);
        fault("   ", 3);
        fault("x", 0);
        fault(";", 0);
        fault("  ;", 2);
        fault("1;", 0);
        fault("S;", 0);
        fault("s", 1);
        fault("s  ", 3);
        fault("ss;", 1);
        fault("s;;", 2);
        fault("s1;", 1);
        fault("s; c", 4);
        fault("s;\t", 2);
        fault("c", 1);
        fault("c;", 1);
        fault("c00000", 6);
        fault("c000000", 7);
        fault("c00000;", 6);
        fault("c0000000;", 7);
        fault("c000000 0;", 8);
        fault("c00 0000;", 3);
        fault("c00000g;", 6);
        fault("c00000F;", 6);
        fault("c000000;c00/000;", 11);
        fault("c000000;c00:000;", 11);
        fault("c000000;c00`000;", 11);
        fault("f;", 1);
        fault("f0;", 2);
        fault("f0 ;", 3);
        fault("f00;", 3);
        fault("f0001 1;", 4);
        fault("f 0 1234;", 7);
        fault("f 0 1 1;", 6);
        fault("f 0 a;", 4);
        fault("f 0 1", 5);
        fault("f 0", 3);
        fault("f-1 1;", 1);
        fault("l1;", 2);
        fault("l 1 2 3;", 6);
        fault("l1,2;", 2);
        fault("p;", 1);
        fault("p1 2;", 3);
        fault("p1234;", 4);
        fault("p 1", 3);
        fault("p a;", 2);
        fault("p 999;f 999 999;c00000;", 22);
    }

    private static void ordersThatEndAll() {
        Hues x = new Hues();
        x.colour(9, 9, 9);
        String[] texts = {"p0;", "p9;", "f1 1;", "f0 2;", "l256 1;", "l1 256;", "l1 999;"};
        for (String text : texts) {
            check.due(text, x.doText(text), -1000);
            check.due("behind others: " + text, x.doText("c000000; l1 2;f 0 1;" + text.replace("f1", "f2")), -1003);
            check.due("no STATE", x.told(7), 1);
            check.due("COLOURS", x.count(0), 1);
            check.due("FIXED", x.count(2), 0);
            check.due("LOW", x.told(3), 0);
            check.due("HIGH", x.told(4), 255);
        }
        check.due("an ORDER sees what those before it did", x.doText("c000000;f1 1;"), 2);
        check.due("more than n FIXED", x.doText("f0 1;p1;s;"), -1001);
        check.due("as many as n FIXED", x.doText("f0 1;p2;s;"), 3);
        check.due("THE PALETTE comes back, too", x.doText("f0 0;f1 0;p1;p9;"), -1003);
        check.due("THE PALETTE", x.count(3), 2);
        check.due("FIXED", x.count(2), 3);
    }

    private static void nothingCounts() {
        Hues x = new Hues();
        for (int i = 0; i < 20; i++) {
            x.colour(i, i, i);
        }
        check.due("FULL", x.doText("s;c000000;"), -1001);
        check.due("BAD", x.doText("f20 1;"), -1000);
        x.fixes(0, 1);
        x.fixes(1, 1);
        check.due("NO", x.doText("p1;"), -1000);
        check.due("a FAULT", x.doText("?"), -10);
        for (int k = 0; k < 3; k++) {
            check.due("told(" + k + ")", x.told(k), 0);
        }
    }

    private static void longTexts() {
        Hues x = new Hues();
        check.due("60 ORDERS", x.doText("s;".repeat(60)), 60);
        check.due("one STATE", x.told(7), 1);
        check.due("a FAULT at the end", x.doText("s;".repeat(59) + "s "), -130);
        check.due("a FAULT at the last byte", x.doText("s;".repeat(59) + "s?"), -129);
        x = new Hues();
        check.due("the last ORDER ends all", x.doText("s;".repeat(58) + "p9; "), -1058);
        check.due("15 COLOURS", x.doText("c123456;".repeat(15)), 15);
        check.due("the 21st COLOUR ends all", x.does(), -1005);
        check.due("COLOURS", x.count(0), 15);
    }

    private static void back() {
        Hues x = new Hues();
        check.refused("none", x, HuesApart.NO, y -> y.back());
        for (int i = 0; i < 7; i++) {
            x.sets(0, i + 1);
        }
        x.type('s');
        x.sets(9, 9);
        check.due("STATES", x.told(7), 5);
        for (int left = 4; left >= 0; left--) {
            check.due("back()", x.back(), left);
            check.due("LOW", x.told(3), left + 2);
            check.due("STATES", x.told(7), left);
        }
        check.refused("older ones are lost", x, HuesApart.NO, y -> y.back());
        check.due("THE TEXT stays", x.told(6), 1);
        check.due("how often refused stays", x.told(0), 1);
        x.sets(0, 50);
        x.sets(0, 60);
        check.due("back() leaves no STATE", x.back(), 1);
        check.due("LOW", x.told(3), 50);
        check.due("back()", x.back(), 0);
        check.due("LOW", x.told(3), 2);
    }

    /** A text that ends all must not touch the STATES, also if there are as many as can be. */
    private static void backAfterTextsThatDidNothing() {
        Hues x = new Hues();
        for (int i = 0; i < 9; i++) {
            x.sets(0, i + 1);
            check.due("ends all", x.doText("l 99 99;p9;"), -1001);
        }
        for (int left = 4; left >= 0; left--) {
            check.due("back()", x.back(), left);
            check.due("LOW", x.told(3), left + 4);
        }
    }

    private static void told() {
        Hues x = new Hues();
        x.sets(0, 11);
        x.sets(1, 22);
        x.sets(2, 33);
        x.type(1);
        x.type(2);
        x.told(8);
        x.told(-1);
        x.told(Integer.MAX_VALUE);
        x.colour(1, 1, 1);
        x.colour(1, 1, 1);
        x.fixes(0, 1);
        x.fixes(1, 1);
        x.fills(1);
        int[] want = {3, 1, 0, 11, 22, 33, 2, 5};
        for (int what = 0; what < 8; what++) {
            check.due("told(" + what + ")", x.told(what), want[what]);
        }
    }

    private static void digest() {
        Hues x = new Hues();
        check.due("new", x.digest(), x.digestByHand());
        x.colour(1, 200, 3);
        x.colour(255, 0, 255);
        x.colour(90, 90, 90);
        x.fixes(1, 1);
        x.eye(1, 3, -250);
        x.eye(1, 12, 1);
        x.fills(2);
        x.type(99);
        x.colour(-1, 0, 0);
        x.ground(3, 4, 5);
        check.due("some", x.digest(), x.digestByHand());
        long before = x.digest();
        check.due("twice", before, x.digest());
        x.type(99);
        check.due("another", x.digest() == before ? 1 : 0, 0);
    }
}
