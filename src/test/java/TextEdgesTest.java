/** Texts at their edges, and promises 22 to 25: each sentence has a case of its own. */
public final class TextEdgesTest {
    private static final int LOW = Checks.LOW;
    private static final int HIGH = Checks.HIGH;
    private static final int INVALID = Checks.INVALID;
    private static final int IMPOSSIBLE = Checks.IMPOSSIBLE;
    private static final int MISSING = Checks.MISSING;
    private static final int NONE = -1;

    private static Checks c;

    public static void main(String[] args) {
        c = new Checks("TextEdgesTest");
        typeCharacters();
        typeUpToSixty();
        typeIntoFullText();
        clearEmptyAndFull();
        nothingIsLeftOfClearedText();
        faultWhat();
        emptyTextHasNoFault();
        everyCharacterAlone();
        everyCharacterAsDigit();
        everyCharacterForAnother();
        everyTextCutOff();
        digits();
        signsBetween();
        putPlaces();
        putWords();
        takePlaces();
        changePlaces();
        movePlaces();
        editsOfEmptyRow();
        rowThatGetsEmpty();
        rowThatGetsFull();
        fullRow();
        firstFaultCounts();
        formRatherThanPlaceRatherThanFull();
        positions();
        fullTexts();
        playOfNoEdits();
        playIsOneChange();
        playDoesAllOrNone();
        playAgain();
        wordsOfTexts();
        c.end();
    }

    private static void typeCharacters() {
        Counted x = new Counted();
        for (int character : new int[] {LOW, LOW + 1, -32, -1, 0, 31, 127, 128, 255, 256 + 59, 65536 + 59, HIGH - 1, HIGH}) {
            c.refused(x, "type(" + character + ")", y -> y.type(character), INVALID);
        }
        for (int character = 32; character <= 126; character++) {
            c.due("type(" + character + ")", new Counted().type(character), 1);
        }
    }

    private static void typeUpToSixty() {
        Counted x = new Counted();
        for (int k = 1; k <= 60; k++) {
            c.due("character " + k, x.type(k % 2 == 0 ? 32 : 126), k);
            c.due("length", x.count(5), k);
        }
        c.due("character 61", x.type(32), Checks.LIMIT);
    }

    private static void typeIntoFullText() {
        Counted x = new Counted();
        Checks.typeAll(x, ";".repeat(60));
        for (int character : new int[] {32, 59, 126}) {
            c.refused(x, "type(" + character + ") into a full text", y -> y.type(character), Checks.LIMIT);
        }
        for (int character : new int[] {LOW, 31, 127, HIGH}) {
            c.refused(x, "type(" + character + ") into a full text", y -> y.type(character), INVALID);
        }
        c.due("clearText()", x.clearText(), 60);
        c.due("type(32)", x.type(32), 1);
    }

    private static void clearEmptyAndFull() {
        Counted x = new Counted();
        c.asked(x, "clearText() of an empty text", y -> y.clearText(), 0);
        x.type('-');
        c.due("clearText() of one character", x.clearText(), 1);
        c.due("clearText() again", x.clearText(), 0);
        Checks.typeAll(x, ";".repeat(60));
        c.due("clearText() of a full text", x.clearText(), 60);
        c.due("length", x.count(5), 0);
        c.due("no change", x.count(4), 0);
        Checks.typeAll(x, "+0,1;");
        c.due("play()", x.play(), 1);
    }

    private static void nothingIsLeftOfClearedText() {
        for (String edit : new String[] {"+01,10;", "-01;", "=01,10;", ">01,01,00;"}) {
            for (int length = 0; length < edit.length(); length++) {
                Counted x = Checks.rowOf(1, 2, 3);
                Checks.typeAll(x, edit + edit);
                x.clearText();
                Checks.typeAll(x, edit.substring(0, length));
                String name = "[" + edit.substring(0, length) + "] after [" + edit + "] ";
                c.due(name + "fault(0)", x.fault(0), length == 0 ? MISSING : 0);
                c.due(name + "fault(1)", x.fault(1), length == 0 ? MISSING : 1);
                c.due(name + "play()", x.play(), length == 0 ? 3 : IMPOSSIBLE);
            }
        }
    }

    private static void faultWhat() {
        Counted none = new Counted();
        Counted x = new Counted();
        x.type(';');
        for (int what : new int[] {LOW, LOW + 1, -1, 2, 3, HIGH - 1, HIGH}) {
            c.refused(none, "fault(" + what + ") of an empty text", y -> y.fault(what), INVALID);
            c.refused(x, "fault(" + what + ") of a fault", y -> y.fault(what), INVALID);
        }
        c.asked(x, "fault(0)", y -> y.fault(0), 0);
        c.asked(x, "fault(1)", y -> y.fault(1), 1);
    }

    private static void emptyTextHasNoFault() {
        Counted x = new Counted();
        c.refused(x, "fault(0) of an empty text", y -> y.fault(0), MISSING);
        c.refused(x, "fault(1) of an empty text", y -> y.fault(1), MISSING);
    }

    /** A text typed into an object of so many words; its fault, or NONE as its position. */
    private static void fault(int words, String text, int position, int reason) {
        Counted x = Checks.rowOfSize(words);
        Checks.typeAll(x, text);
        String name = words + " words [" + text + "] ";
        if (position == NONE) {
            c.due(name + "fault(0)", x.fault(0), MISSING);
            c.due(name + "fault(1)", x.fault(1), MISSING);
            int states = x.count(4);
            c.holds(name + "play()", x.play() >= 0);
            c.due(name + "states", x.count(4), Math.min(4, states + 1));
        } else {
            c.due(name + "fault(0)", x.fault(0), position);
            c.due(name + "fault(1)", x.fault(1), reason);
            c.refused(x, name + "play()", y -> y.play(), IMPOSSIBLE);
        }
    }

    private static void good(int words, String text) {
        fault(words, text, NONE, 0);
    }

    private static void everyCharacterAlone() {
        for (char character = 32; character <= 126; character++) {
            fault(1, "" + character, 0, 1);
        }
    }

    private static void everyCharacterAsDigit() {
        for (char character = 32; character <= 126; character++) {
            boolean digit = character >= '0' && character <= '9';
            fault(10, "-" + character + ";", digit ? NONE : 0, 1);
            boolean end = character == ';';
            fault(10, "-0" + character + ";", digit ? NONE : end ? 3 : 0, 1);
            fault(10, "-0" + character, end ? NONE : 0, 1);
            fault(10, "+0," + character + ";", digit ? NONE : 0, 1);
        }
    }

    private static void everyCharacterForAnother() {
        for (char character = 32; character <= 126; character++) {
            fault(3, character + "0;", character == '-' ? NONE : 0, 1);
            fault(3, character + "0,0;", character == '+' || character == '=' ? NONE : 0, 1);
            fault(3, character + "0,1,0;", character == '>' ? NONE : 0, 1);
            if (character < '0' || character > '9') {
                fault(3, "+0" + character + "1;", character == ',' ? NONE : 0, 1);
                fault(3, ">0" + character + "1,0;", character == ',' ? NONE : 0, 1);
                fault(3, ">0,1" + character + "0;", character == ',' ? NONE : 0, 1);
            }
        }
    }

    private static void everyTextCutOff() {
        for (String edit : new String[] {"+00,11;", "-00;", "=00,11;", ">00,11,00;"}) {
            for (int length = 1; length < edit.length(); length++) {
                fault(20, edit.substring(0, length), 0, 1);
                fault(20, "-0;" + edit.substring(0, length), 3, 1);
            }
            good(20, edit);
            good(20, edit + edit);
        }
    }

    private static void digits() {
        for (String text : new String[] {"-0;", "-00;", "-9;", "-09;", "-10;", "+9,9;", "+09,09;", "+10,99;",
            "=0,0;", "=00,00;", ">0,1,0;", ">00,01,00;", ">1,10,1;"}) {
            good(12, text);
        }
        for (String text : new String[] {"-;", "-000;", "-001;", "-100;", "+,1;", "+0,;", "+000,1;", "+0,000;",
            "+0,001;", "+0,100;", "=,1;", "=0,;", "=000,1;", "=0,001;", ">,1,0;", ">0,,0;", ">0,1,;",
            ">000,1,0;", ">0,001,0;", ">0,1,000;"}) {
            fault(12, text, 0, 1);
        }
    }

    private static void signsBetween() {
        for (String text : new String[] {"- 0;", "-0 ;", " -0;", "-0,;", "-,0;", "-0,0;", "+0;", "+0 ,1;",
            "+0, 1;", "+0,,1;", "+0,1,;", "+0,1,1;", "=0;", "=0,1,1;", ">0;", ">0,1;", ">0,1,0,0;",
            "+-0,1;", "+0,-1;", "--0;", ";", ";-0;", ",", "0", "-0.", "-0:", "-0,"}) {
            fault(3, text, 0, 1);
        }
        fault(3, "-0; ", 3, 1);
        fault(3, "-0;;", 3, 1);
        fault(3, "-0; -0;", 3, 1);
    }

    private static void putPlaces() {
        good(3, "+0,1;");
        good(3, "+3,1;");
        fault(3, "+4,1;", 0, 2);
        fault(3, "+99,1;", 0, 2);
        good(39, "+39,1;");
        fault(39, "+40,1;", 0, 2);
    }

    private static void putWords() {
        good(0, "+0,0;");
        good(0, "+0,99;");
        fault(0, "+0,100;", 0, 1);
        good(1, "=0,0;");
        good(1, "=0,99;");
        fault(1, "=0,100;", 0, 1);
    }

    private static void takePlaces() {
        good(3, "-0;");
        good(3, "-2;");
        fault(3, "-3;", 0, 2);
        fault(3, "-99;", 0, 2);
        good(40, "-39;");
        fault(40, "-40;", 0, 2);
    }

    private static void changePlaces() {
        good(3, "=0,1;");
        good(3, "=2,1;");
        fault(3, "=3,1;", 0, 2);
        fault(3, "=99,1;", 0, 2);
        good(40, "=39,1;");
        fault(40, "=40,1;", 0, 2);
    }

    private static void movePlaces() {
        good(4, ">0,1,0;");
        good(4, ">3,1,3;");
        fault(4, ">4,1,0;", 0, 2);
        fault(4, ">99,1,0;", 0, 2);
        fault(4, ">1,0,0;", 0, 2);
        fault(4, ">1,00,0;", 0, 2);
        good(4, ">1,3,0;");
        fault(4, ">1,4,0;", 0, 2);
        fault(4, ">1,99,0;", 0, 2);
        good(4, ">1,2,2;");
        fault(4, ">1,2,3;", 0, 2);
        fault(4, ">1,2,99;", 0, 2);
        good(4, ">0,4,0;");
        fault(4, ">0,4,1;", 0, 2);
        fault(4, ">0,5,0;", 0, 2);
        fault(4, ">4,0,0;", 0, 2);
        good(40, ">0,40,0;");
        good(40, ">39,1,0;");
        good(40, ">0,1,39;");
        fault(40, ">0,41,0;", 0, 2);
        fault(40, ">40,1,0;", 0, 2);
        fault(40, ">0,1,40;", 0, 2);
    }

    private static void editsOfEmptyRow() {
        good(0, "+0,1;");
        fault(0, "+1,1;", 0, 2);
        fault(0, "-0;", 0, 2);
        fault(0, "=0,1;", 0, 2);
        fault(0, ">0,1,0;", 0, 2);
        fault(0, ">0,0,0;", 0, 2);
        fault(0, "+", 0, 1);
    }

    private static void rowThatGetsEmpty() {
        good(1, "-0;+0,1;");
        good(2, "-1;-0;");
        fault(1, "-0;-0;", 3, 2);
        fault(1, "-0;=0,1;", 3, 2);
        fault(1, "-0;+1,1;", 3, 2);
        fault(1, "-0;>0,1,0;", 3, 2);
        good(0, "+0,1;-0;");
        fault(0, "+0,1;-1;", 5, 2);
    }

    private static void rowThatGetsFull() {
        good(39, "+0,1;");
        fault(39, "+0,1;+0,1;", 5, 3);
        good(38, "+0,1;+39,1;");
        fault(38, "+0,1;+0,1;+40,1;", 10, 3);
        fault(38, "+0,1;+0,1;+41,1;", 10, 2);
        good(39, "+0,1;-0;+39,1;");
        fault(39, "-0;+0,1;+0,1;+0,1;", 13, 3);
    }

    private static void fullRow() {
        fault(40, "+0,1;", 0, 3);
        fault(40, "+39,1;", 0, 3);
        fault(40, "+40,1;", 0, 3);
        fault(40, "+41,1;", 0, 2);
        fault(40, "+99,1;", 0, 2);
        fault(40, "+0,1", 0, 1);
        good(40, "-0;+39,1;");
        fault(40, "-0;+40,1;", 3, 2);
        good(40, "=0,1;");
        good(40, ">0,20,20;");
    }

    private static void firstFaultCounts() {
        fault(3, "-9;x", 0, 2);
        fault(3, "x;-9;", 0, 1);
        fault(40, "+0,1;-99;", 0, 3);
        fault(40, "-40;+0,1;", 0, 2);
        fault(40, "=0,5;+0,1;-;", 5, 3);
    }

    private static void formRatherThanPlaceRatherThanFull() {
        fault(40, "+41,1", 0, 1);
        fault(40, "+0,100;", 0, 1);
        fault(40, "+41,1;", 0, 2);
        fault(40, "+40,1;", 0, 3);
        fault(3, "-9", 0, 1);
        fault(3, ">9,0,9", 0, 1);
    }

    private static void positions() {
        fault(30, "-0;-9", 3, 1);
        fault(30, "-00;-9", 4, 1);
        fault(30, "+0,1;x", 5, 1);
        fault(30, "+00,01;x", 7, 1);
        fault(30, ">0,1,0;x", 7, 1);
        fault(30, ">00,01,00;x", 10, 1);
        fault(30, "-00;=0,1;>0,1,0;+00,0;-99;-0;", 22, 2);
    }

    private static void fullTexts() {
        good(20, "-0;".repeat(20));
        fault(19, "-0;".repeat(20), 57, 2);
        fault(20, "-0;".repeat(19) + "-00", 57, 1);
        fault(20, "-00;".repeat(5) + "-0;".repeat(13) + "-", 59, 1);
        fault(20, "-00;".repeat(14) + "+7,9", 56, 1);
        good(20, "+00,99;".repeat(8) + "-00;");
        fault(32, "+00,99;".repeat(8) + "+000", 56, 1);
        fault(33, "+00,99;".repeat(8) + "-00;", 49, 3);
        good(40, ">00,01,39;".repeat(6));
        fault(40, ">00,01,39;".repeat(5) + ">00,01,40;", 50, 2);
        fault(0, " ".repeat(60), 0, 1);
    }

    private static void playOfNoEdits() {
        Counted none = new Counted();
        c.due("play() of an empty text in an empty row", none.play(), 0);
        c.due("is a change", none.count(4), 1);
        c.due("no edit", none.count(3), 0);
        Counted full = Checks.rowOfSize(40);
        c.due("play() of an empty text in a full row", full.play(), 40);
        c.due("no edit", full.count(3), 40);
        c.due("undo()", full.undo(), 3);
        c.due("it was a change", full.count(0), 40);
    }

    private static void playIsOneChange() {
        Counted x = Checks.rowOfSize(20);
        for (int k = 0; k < 4; k++) {
            x.undo();
        }
        for (int k = 0; k < 4; k++) {
            x.put(0, 50);
        }
        Checks.typeAll(x, "-0;".repeat(20));
        c.due("play() of 20 edits", x.play(), 0);
        c.due("edits", x.count(3), 40);
        c.due("states", x.count(4), 4);
        c.due("the text stays", x.count(5), 60);
        c.due("undo() of all of them", x.undo(), 3);
        c.due("words", x.count(0), 20);
        c.due("edits", x.count(3), 20);
        c.due("the text stays", x.clearText(), 60);
    }

    private static void playDoesAllOrNone() {
        Counted x = Checks.rowOf(1, 2, 3);
        x.anchor(2);
        Checks.typeAll(x, "-0;=0,7;>0,1,1;-9;");
        c.refused(x, "play() with a fault in the last edit", y -> y.play(), IMPOSSIBLE);
        c.row(x, "1 2 3");
        c.due("its true place", x.anchorOf(0, 1), 2);
        c.due("edits", x.count(3), 3);
        c.due("the text stays", x.count(5), 18);
    }

    private static void playAgain() {
        Counted x = new Counted();
        Checks.typeAll(x, "+0,1;+0,2;");
        for (int words = 2; words <= 40; words += 2) {
            c.due("play()", x.play(), words);
        }
        c.due("fault(0) in a full row", x.fault(0), 0);
        c.due("fault(1) in a full row", x.fault(1), 3);
        c.refused(x, "play() in a full row", y -> y.play(), IMPOSSIBLE);
        x.take(0);
        c.due("fault(0) in a row of 39", x.fault(0), 5);
        c.refused(x, "play() in a row of 39", y -> y.play(), IMPOSSIBLE);
        x.take(0);
        c.refused(x, "fault(0) in a row of 38", y -> y.fault(0), MISSING);
        c.due("play() in a row of 38", x.play(), 40);
    }

    private static void wordsOfTexts() {
        Counted x = new Counted();
        Checks.typeAll(x, "+0,0;+1,99;+00,07;+3,70;=3,08;");
        c.due("play()", x.play(), 4);
        c.row(x, "7 0 99 8");
        x.clearText();
        Checks.typeAll(x, ">3,01,00;>0,3,1;");
        c.due("play()", x.play(), 4);
        c.row(x, "99 8 7 0");
    }
}
