/** The edges of THE TEXT (document: Terms 2, THE TEXT and FAULT; promises 22 to 24). */
public final class TextsEdgeTest {
    private static final Check check = new Check("TextsEdgeTest");
    private static final String DONE = "c000000;";

    public static void main(String[] args) {
        hundredAndTwentyBytes();
        bytesOfAllKinds();
        clearTellsHowManyItHad();
        theTextStays();
        howManyOrders();
        emptyOrBlanksAlone();
        theFirstByteOfAnOrder();
        figuresToTheBaseSixteen();
        sixFigures();
        noBlankWithinTheSixFigures();
        figuresOfOtherNumbers();
        oneToThreeFigures();
        noBlankWithinANumber();
        blanksAnywhereElse();
        blanksNeeded();
        onlyThirtyTwoIsABlank();
        eachIsEnded();
        numbersMissingOrTooMany();
        endsTooEarly();
        theFirstFault();
        theFirstAndTheLastFault();
        faultBeforeOrder();
        faultDoesNothing();
        check.end();
    }

    /** On a new object with one COLOUR: what does() answers. */
    private static int answer(String text) {
        Hues x = new Hues();
        x.colour(0, 0, 0);
        return x.doText(text);
    }

    private static void fault(String text, int place) {
        check.due("'" + text + "'", answer(text), -10 - place);
    }

    private static void fine(String text, int orders) {
        check.due("'" + text + "'", answer(text), orders);
    }

    private static void hundredAndTwentyBytes() {
        Hues x = new Hues();
        for (int k = 1; k <= 119; k++) {
            check.due("byte " + k, x.type(' '), k);
        }
        check.due("byte 120", check.notRefused("byte 120", x, y -> y.type(';')), 120);
        check.refused("byte 121", x, HuesApart.FULL, y -> y.type(';'));
        check.due("how many", x.told(6), 120);
        check.due("all of them are read", x.does(), -10 - 119);
        for (int c : new int[] {0, ' ', ';', 'c', 127}) {
            check.refusedIn(Situation.CROWDED, "type(" + c + ")", HuesApart.FULL, y -> y.type(c));
        }
        x.clear();
        check.due("room again", x.type('s'), 1);
    }

    /** Bytes 0 and 127 are taken like others; that they can not stand in an ORDER shows by does() alone. */
    private static void bytesOfAllKinds() {
        Hues x = new Hues();
        for (int c = 0; c < 128; c++) {
            if (c == 64) {
                check.due("clear()", x.clear(), 64);
            }
            check.due("type(" + c + ")", x.type(c), c % 64 + 1);
        }
        check.due("no refusal", x.told(0) + x.told(1) + x.told(2), 0);
        check.due("no STATE", x.told(7), 0);
    }

    private static void clearTellsHowManyItHad() {
        Hues x = new Hues();
        check.due("none", x.clear(), 0);
        x.type('s');
        check.due("one", x.clear(), 1);
        check.due("none again", x.clear(), 0);
        check.due("it is empty", x.told(6), 0);
        check.due("it is empty", x.does(), -10);
        check.due("120", Situation.CROWDED.make().clear(), 120);
        Hues busy = Situation.BUSY.make();
        check.due("some", busy.clear(), Situation.BUSY_TEXT.length());
        check.like("but THE TEXT all stays", new Snapshot(busy).without("told 6"), new Snapshot(Situation.BUSY.make()).without("told 6"));
        busy.write("s;");
        check.due("what was cleared is gone", busy.does(), 1);
    }

    private static void theTextStays() {
        Hues x = new Hues();
        check.due("done", x.doText("c010203;"), 1);
        check.due("it stays", x.told(6), 8);
        check.due("done again", x.does(), 1);
        check.due("two COLOURS", x.count(0), 2);
        x.type('p');
        check.due("a FAULT", x.does(), -10 - 9);
        check.due("it stays", x.told(6), 9);
        x.type('9');
        x.type(';');
        check.due("an ORDER that ends all", x.does(), -1001);
        check.due("it stays", x.told(6), 11);
    }

    private static void howManyOrders() {
        for (int orders = 1; orders <= 60; orders++) {
            fine("s;".repeat(orders), orders);
        }
        for (int orders = 1; orders <= 15; orders++) {
            fine(DONE.repeat(orders), orders);
        }
    }

    private static void emptyOrBlanksAlone() {
        fault("", 0);
        for (int blanks = 1; blanks <= 120; blanks++) {
            fault(" ".repeat(blanks), blanks);
        }
        fine(" ".repeat(118) + "s;", 1);
        fine("s;" + " ".repeat(118), 1);
    }

    /** Of all bytes the five letters and a blank can begin THE TEXT, or stand behind an ORDER. */
    private static void theFirstByteOfAnOrder() {
        for (int c = 0; c < 128; c++) {
            String byteAlone = "" + (char) c;
            boolean can = "cflps ".indexOf(c) >= 0;
            fault(byteAlone, can ? 1 : 0);
            if (c == ' ') {
                fine(DONE + byteAlone, 1);
            } else {
                fault(DONE + byteAlone, can ? 9 : 8);
                fault(DONE + " " + byteAlone, can ? 10 : 9);
            }
        }
    }

    private static void figuresToTheBaseSixteen() {
        String figures = "0123456789abcdef";
        for (int place = 0; place < 6; place++) {
            for (int c = 0; c < 128; c++) {
                StringBuilder six = new StringBuilder("111111");
                six.setCharAt(place, (char) c);
                int value = figures.indexOf(c);
                if (value < 0) {
                    fault("c" + six + ";", 1 + (place == 0 && c == ' ' ? 6 : place));
                    continue;
                }
                Hues x = new Hues();
                check.due("c" + six, x.doText("c" + six + ";"), 1);
                int due = place % 2 == 0 ? 16 * value + 1 : 16 + value;
                for (int what = 0; what < 3; what++) {
                    check.due("c" + six + ": of(0, " + what + ")", x.of(0, what), what == place / 2 ? due : 17);
                }
            }
        }
    }

    private static void sixFigures() {
        for (int figures = 0; figures < 6; figures++) {
            fault("c" + "a".repeat(figures) + ";", 1 + figures);
        }
        fault("c aaaaa ;", 7);
        fine("caaaaaa;", 1);
        for (int figures = 7; figures < 10; figures++) {
            fault("c" + "a".repeat(figures) + ";", 7);
        }
        fault("c000000 0;", 8);
    }

    private static void noBlankWithinTheSixFigures() {
        for (int before = 1; before < 6; before++) {
            fault("c" + "7".repeat(before) + " " + "7".repeat(6 - before) + ";", 1 + before);
        }
        fine("c 777777;", 1);
        fine("c777777 ;", 1);
    }

    private static void figuresOfOtherNumbers() {
        for (int c = 0; c < 128; c++) {
            boolean figure = c >= '0' && c <= '9';
            String sign = "" + (char) c;
            if (c == ' ') {
                continue;
            }
            if (!figure) {
                fault("p" + sign + ";", 1);
                fault("l" + sign + " 1;", 1);
                fault("l1 " + sign + ";", 3);
                fault("f" + sign + " 1;", 1);
                fault("f0 " + sign + ";", 3);
                fault("l0" + sign + " 1;", 2);
                continue;
            }
            fine("l" + sign + " 1;", 1);
            fine("l1 " + sign + ";", 1);
            fine("l1" + sign + " 2" + sign + ";", 1);
        }
        Hues x = new Hues();
        x.doText("l 190 208;");
        check.due("figures to the base 10: LOW", x.told(3), 190);
        check.due("figures to the base 10: HIGH", x.told(4), 208);
    }

    private static void oneToThreeFigures() {
        String[] starts = {"p", "l", "l 7 ", "f", "f 0 "};
        String[] ends = {";", " 7;", ";", " 0;", ";"};
        for (int k = 0; k < starts.length; k++) {
            int length = starts[k].length();
            fault(starts[k] + ";", length);
            String figure = k == 3 ? "0" : "1";
            fine(starts[k] + figure + ends[k], 1);
            fine(starts[k] + "0" + figure + ends[k], 1);
            fine(starts[k] + "00" + figure + ends[k], 1);
            fault(starts[k] + "000" + figure + ends[k], length + 3);
            fault(starts[k] + "0000" + figure + ends[k], length + 3);
        }
    }

    /** A blank within a number makes two of it: the one too many can not stand there. */
    private static void noBlankWithinANumber() {
        fault("p0 1;", 3);
        fault("l1 2 20;", 5);
        fault("l12 2 0;", 6);
        fault("f0 0 1;", 5);
        fine("l12 20;", 1);
    }

    private static void blanksAnywhereElse() {
        String[] tokens = {"c", "0a1b2c", ";", "f", "0", " ", "1", ";", "l", "12", " ", "250", ";", "p", "2", ";", "s", ";"};
        StringBuilder plain = new StringBuilder();
        for (String token : tokens) {
            plain.append(token);
        }
        fine(plain.toString(), 5);
        for (int blanks = 1; blanks <= 3; blanks++) {
            for (int gap = 0; gap <= tokens.length; gap++) {
                StringBuilder text = new StringBuilder();
                for (int k = 0; k < tokens.length; k++) {
                    text.append(k == gap ? " ".repeat(blanks) : "").append(tokens[k]);
                }
                fine(text.append(gap == tokens.length ? " ".repeat(blanks) : "").toString(), 5);
            }
            fine(" ".repeat(blanks) + String.join(" ".repeat(blanks), tokens) + " ".repeat(blanks), 5);
        }
    }

    /** Needed only where figures of two numbers would else stand side by side. */
    private static void blanksNeeded() {
        fault("f01;", 3);
        fault("f001;", 4);
        fault("f0001;", 4);
        fine("f0 1;", 1);
        fault("l12250;", 4);
        fault("l12;", 3);
        fine("c000000;f0 1;l0 9;p2;s;", 5);
    }

    private static void onlyThirtyTwoIsABlank() {
        for (int c : new int[] {0, 9, 10, 11, 13, 31, 33, 95, 127}) {
            char sign = (char) c;
            fault(sign + "s;", 0);
            fault("s" + sign + ";", 1);
            fault("s;" + sign, 2);
            fault("c" + sign + "000000;", 1);
            fault("c000000" + sign + ";", 7);
            fault("f0" + sign + "1;", 2);
            fault("p1" + sign + ";", 2);
        }
    }

    private static void eachIsEnded() {
        fault("s", 1);
        fault("s s;", 2);
        fault("c000000s;", 7);
        fault("c000000f0 1;", 7);
        fault("c000000 f0 1;", 8);
        fault("f0 1p1;", 4);
        fault("p1p1;", 2);
        fault("p1:", 2);
        fault("s;;", 2);
        fault("s; ;", 3);
        fault(";s;", 0);
        fine("s;s;", 2);
    }

    private static void numbersMissingOrTooMany() {
        fault("p;", 1);
        fault("p ;", 2);
        fault("p1 1;", 3);
        fault("f;", 1);
        fault("f0;", 2);
        fault("f0 ;", 3);
        fault("f0 1 1;", 5);
        fault("l;", 1);
        fault("l0;", 2);
        fault("l0 ;", 3);
        fault("l0 1 1;", 5);
        fault("s1;", 1);
        fault("s 1;", 2);
        fault("c;", 1);
        fault("c ;", 2);
    }

    /** Each start of a whole TEXT that does not end an ORDER ends too early: its length is told. */
    private static void endsTooEarly() {
        String whole = "c0a1b2c ; f 0 1 ;l12 250; p2;s ; ";
        int orders = 0;
        for (int length = 0; length <= whole.length(); length++) {
            String start = whole.substring(0, length);
            orders += length > 0 && whole.charAt(length - 1) == ';' ? 1 : 0;
            boolean ended = !start.isBlank() && start.trim().endsWith(";");
            check.due("'" + start + "'", answer(start), ended ? orders : -10 - length);
        }
    }

    private static void theFirstFault() {
        fault("s?x?;", 1);
        fault("p1234;x", 4);
        fault("c00000g;c00000h;", 6);
        fault("s;x;y", 2);
    }

    private static void theFirstAndTheLastFault() {
        fault("x" + "s;".repeat(59), 0);
        fault("s;".repeat(59) + "sx", 119);
        fault("s;".repeat(59) + ";", 118);
        fault("s;".repeat(59) + "s", 119);
        fault("s;".repeat(59) + "s ", 120);
        fault("s;".repeat(59) + "pp", 119);
        fault("s;".repeat(58) + "p001", 120);
        fault("s;".repeat(56) + "c0000000", 119);
    }

    /** THE TEXT is read whole first: a FAULT counts, though an ORDER before it would be refused. */
    private static void faultBeforeOrder() {
        fault("p9;x", 3);
        fault("p0;s", 4);
        fault("f9 9;l999 999;p999;c00000;", 25);
        check.due("the same without the FAULT", answer("p9; "), -1000);
        check.due("the same without the FAULT", answer("p0;s;"), -1000);
    }

    private static void faultDoesNothing() {
        String[] texts = {"", "   ", "x", "c0a0b0c", "c0a0b0c;x", "f0 0;l1 2;p4;s;?", "l7 99;p0001;", "c0a0b0c;f1 1;p"};
        for (Situation situation : Situation.values()) {
            for (String text : texts) {
                String what = situation + ": '" + text + "'";
                Hues x = situation.make();
                Hues twin = situation.make();
                x.write(text);
                twin.write(text);
                check.due(what, check.notRefused(what, x, y -> y.does()) <= -10 ? 1 : 0, 1);
                check.like(what, x, twin);
                x = situation.make();
                twin = situation.make();
                x.doText(text);
                twin.write(text);
                int states = twin.told(7);
                for (int step = 0; step < states; step++) {
                    check.due(what + ", then back()", x.back(), twin.back());
                }
                check.like(what + ", then all the way back", x, twin);
            }
        }
    }
}
