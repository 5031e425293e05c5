/** Promises 22 to 25: type, clearText, fault and play. */
public final class TextsTest {
    private static final int LOW = Checks.LOW;
    private static final int HIGH = Checks.HIGH;

    public static void main(String[] args) {
        Checks c = new Checks("TextsTest");
        type(c);
        clearText(c);
        forms(c);
        places(c);
        full(c);
        play(c);
        c.end();
    }

    private static void type(Checks c) {
        Counted x = new Counted();
        c.due("type(32)", x.type(32), 1);
        c.due("type(126)", x.type(126), 2);
        int[] wrong = {31, 127, -1, 0, 256 + 48, 65536 + 48, LOW, HIGH};
        for (int character : wrong) {
            c.refused(x, "type(" + character + ")", y -> y.type(character), Checks.INVALID);
        }
        for (int k = 3; k <= 60; k++) {
            c.due("type(59)", x.type(59), k);
        }
        c.refused(x, "type(59) into a full text", y -> y.type(59), Checks.LIMIT);
        c.refused(x, "type(31) into a full text", y -> y.type(31), Checks.INVALID);
        c.due("no change", x.count(4), 0);
    }

    private static void clearText(Checks c) {
        Counted x = Checks.rowOf(1);
        c.due("clearText()", x.clearText(), 0);
        Checks.typeAll(x, "-9;");
        c.due("fault(0)", x.fault(0), 0);
        c.due("clearText()", x.clearText(), 3);
        c.due("length", x.count(5), 0);
        c.due("fault(0)", x.fault(0), Checks.MISSING);
        c.due("clearText()", x.clearText(), 0);
        c.due("no change", x.count(4), 1);
        c.due("type(45)", x.type(45), 1);
    }

    /** A fault of a text, typed into an object with the row 1 2 3. */
    private static void due(Checks c, String text, int position, int reason) {
        Counted x = Checks.rowOf(1, 2, 3);
        Checks.typeAll(x, text);
        c.due("[" + text + "] fault(0)", x.fault(0), position);
        c.due("[" + text + "] fault(1)", x.fault(1), reason);
        c.refused(x, "[" + text + "] fault(2)", y -> y.fault(2), Checks.INVALID);
        c.refused(x, "[" + text + "] fault(-1)", y -> y.fault(-1), Checks.INVALID);
        if (position == Checks.MISSING) {
            c.holds("[" + text + "] play()", x.play() >= 0);
            c.due("[" + text + "] is one change more", x.count(4), 4);
        } else {
            c.refused(x, "[" + text + "] play()", y -> y.play(), Checks.IMPOSSIBLE);
        }
    }

    private static void forms(Checks c) {
        String[] good = {"", "+0,0;", "+03,09;", "-2;", "-02;", "=2,99;", "=00,0;", ">0,1,2;",
            ">00,03,00;", "+3,1;+4,2;-4;", ">2,1,0;=0,5;-1;-1;-0;+0,8;"};
        for (String text : good) {
            due(c, text, Checks.MISSING, Checks.MISSING);
        }
        String[] bad = {"+", "+0", "+0,", "+0,0", "+0;", "+,0;", "+0,;", "+000,0;", "+0,000;",
            "+0,0,0;", "-", "-;", "-0", "-0,0;", "-000;", "=0;", "=0,0", "=0,0,0;", "=,;",
            ">0;", ">0,1;", ">0,1,", ">0,1,0", ">0,1,0,0;", ">0,001,0;", ">,,;", ";", ";;", "0;",
            "x0;", " -0;", "- 0;", "-0 ;", "--0;", "-a;", "+0.0;", "+0,-1;", "-0:", "-0+", "/0,0;",
            "-/;", "-:;", "~", ",", "-9", "=9,9", "+0;0;"};
        for (String text : bad) {
            due(c, text, 0, 1);
        }
        due(c, "-0; -0;", 3, 1);
        due(c, "-0;;", 3, 1);
        due(c, "+1,5;-0;>0,1", 8, 1);
        due(c, "-0;-0;-0;-", 9, 1);
    }

    private static void places(Checks c) {
        String[] bad = {"+4,0;", "+99,0;", "-3;", "-99;", "=3,0;", ">3,1,0;", ">0,0,0;", ">0,4,0;",
            ">2,2,0;", ">0,1,3;", ">1,2,2;", ">0,3,1;", ">99,99,99;", ">3,0,0;", ">1,99,0;"};
        for (String text : bad) {
            due(c, text, 0, 2);
        }
        due(c, "-0;-0;-0;-0;", 9, 2);
        due(c, "+3,1;+5,1;", 5, 2);
        due(c, "+3,1;+4,1;", Checks.MISSING, Checks.MISSING);
        due(c, "-0;=2,1;", 3, 2);
        due(c, "-1;>0,2,1;", 3, 2);
        due(c, "+0,1;>0,1,3;", Checks.MISSING, Checks.MISSING);
        due(c, "=0,5;=1,6;=3,7;x", 10, 2);
        due(c, "x;-9;", 0, 1);
        due(c, "-9;x;", 0, 2);
    }

    private static void full(Checks c) {
        Counted x = new Counted();
        for (int k = 0; k < 39; k++) {
            x.put(k, k);
        }
        Checks.typeAll(x, "+39,5;-0;+00,6;");
        c.due("just full", x.fault(0), Checks.MISSING);
        Checks.typeAll(x, "+0,1;");
        c.due("too full", x.fault(0), 15);
        c.due("reason", x.fault(1), 3);
        c.refused(x, "play() of too many", y -> y.play(), Checks.IMPOSSIBLE);
        x.clearText();
        Checks.typeAll(x, "+0,5;+40,1;");
        c.due("at the end of a full row", x.fault(1), 3);
        x.clearText();
        Checks.typeAll(x, "+0,5;+41,1;");
        c.due("no such place rather than full", x.fault(1), 2);
        x.clearText();
        Checks.typeAll(x, "+0,5;+41,1");
        c.due("not of the form rather than no such place", x.fault(1), 1);
        c.due("its position", x.fault(0), 5);
        x.put(39, 1);
        x.clearText();
        Checks.typeAll(x, "=39,1;>0,40,0;>39,1,0;");
        c.due("a full row may change and move", x.fault(0), Checks.MISSING);
        c.due("play()", x.play(), 40);
    }

    private static void play(Checks c) {
        Counted x = Checks.rowOf(1, 2, 3);
        x.anchor(0);
        x.anchor(1);
        x.anchor(2);
        c.due("play() of an empty text", x.play(), 3);
        Checks.typeAll(x, "+0,9;=2,8;>3,1,0;-3;+03,77;");
        c.due("play()", x.play(), 4);
        c.row(x, "3 9 1 77");
        c.due("true place of the word that was put behind", x.anchorOf(0, 1), 2);
        c.due("true place of the word that was changed and taken", x.anchorOf(1, 1), Checks.MISSING);
        c.due("true place of the word that moved", x.anchorOf(2, 1), 0);
        c.due("places stay", x.anchorOf(2, 0), 2);
        c.due("edits", x.count(3), 8);
        c.due("undo() of the whole text", x.undo(), 3);
        c.row(x, "1 2 3");
        c.due("edits", x.count(3), 3);
        c.due("the text is not restored", x.clearText(), 27);
        Checks.typeAll(x, "-0;");
        c.due("play()", x.play(), 2);
        c.row(x, "2 3");
        c.due("play() again", x.play(), 1);
        c.due("and again", x.play(), 0);
        c.refused(x, "play() without words", y -> y.play(), Checks.IMPOSSIBLE);
        c.due("fault(1)", x.fault(1), 2);
    }
}
