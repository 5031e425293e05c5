/** The row at its edges, and promises 1 to 5 and 12 there: each sentence has a case of its own. */
public final class RowEdgesTest {
    private static final int LOW = Checks.LOW;
    private static final int HIGH = Checks.HIGH;
    private static final int INVALID = Checks.INVALID;

    private static Checks c;

    public static void main(String[] args) {
        c = new Checks("RowEdgesTest");
        newObject();
        putPlaces();
        putWords();
        putIntoFullRow();
        putUpToForty();
        putMovesThoseBehind();
        takePlaces();
        takeTheOnlyWord();
        takeReturnsZeroToo();
        changePlaces();
        changeWords();
        changeInFullRow();
        changeToWhatItIs();
        moveFrom();
        moveMany();
        moveTo();
        moveInEmptyRow();
        moveOfOneWord();
        moveOfAllWords();
        moveInFullRow();
        moveCountsPlacesNotWords();
        moveToWhereItIs();
        wordAtPlaces();
        wordAtBehindTheRow();
        c.end();
    }

    private static void newObject() {
        Counted x = new Counted();
        c.due("1: words", x.count(0), 0);
        c.due("1: anchors", x.count(1), 0);
        c.due("1: edits", x.count(3), 0);
        c.due("1: states", x.count(4), 0);
        c.due("1: text", x.count(5), 0);
        c.due("1: no word", x.wordAt(0), Checks.MISSING);
    }

    private static void putPlaces() {
        Counted none = new Counted();
        c.refused(none, "put(1, 5) into an empty row", y -> y.put(1, 5), INVALID);
        c.refused(none, "put(-1, 5) into an empty row", y -> y.put(-1, 5), INVALID);
        c.due("put(0, 5) into an empty row", none.put(0, 5), 1);
        c.refused(none, "put(2, 5) into a row of one", y -> y.put(2, 5), INVALID);
        c.due("put(1, 6) behind the last word", none.put(1, 6), 2);
        c.row(none, "5 6");
        Counted x = Checks.rowOfSize(39);
        for (int place : new int[] {LOW, LOW + 1, -40, -1, 40, 41, HIGH - 1, HIGH}) {
            c.refused(x, "put(" + place + ", 5) into a row of 39", y -> y.put(place, 5), INVALID);
        }
        c.due("put(39, 5) behind 39 words", x.put(39, 5), 40);
        c.due("it is the last one", x.wordAt(39), 5);
    }

    private static void putWords() {
        Counted x = Checks.rowOf(7);
        for (int word : new int[] {LOW, LOW + 1, -100, -1, 100, 101, HIGH - 1, HIGH}) {
            c.refused(x, "put(0, " + word + ")", y -> y.put(0, word), INVALID);
        }
        c.due("put(0, 0)", x.put(0, 0), 2);
        c.due("put(0, 99)", x.put(0, 99), 3);
        c.row(x, "99 0 7");
    }

    private static void putIntoFullRow() {
        Counted x = Checks.rowOfSize(40);
        for (int place : new int[] {0, 1, 39, 40}) {
            c.refused(x, "put(" + place + ", 5) into a full row", y -> y.put(place, 5), Checks.LIMIT);
        }
        for (int place : new int[] {LOW, -1, 41, HIGH}) {
            c.refused(x, "put(" + place + ", 5) into a full row", y -> y.put(place, 5), INVALID);
        }
        for (int word : new int[] {LOW, -1, 100, HIGH}) {
            c.refused(x, "put(0, " + word + ") into a full row", y -> y.put(0, word), INVALID);
        }
    }

    private static void putUpToForty() {
        Counted x = new Counted();
        for (int k = 1; k <= 40; k++) {
            c.due("put of word " + k, x.put(0, k), k);
        }
        c.due("put of word 41", x.put(0, 41), Checks.LIMIT);
        c.due("the last word", x.wordAt(39), 1);
        c.due("the first word", x.wordAt(0), 40);
        x.take(20);
        c.due("put when one has gone", x.put(0, 50), 40);
        c.due("put when it is full again", x.put(0, 50), Checks.LIMIT);
    }

    private static void putMovesThoseBehind() {
        Counted ahead = Checks.rowOf(1, 2, 3);
        ahead.put(0, 9);
        c.row(ahead, "9 1 2 3");
        Counted between = Checks.rowOf(1, 2, 3);
        between.put(2, 9);
        c.row(between, "1 2 9 3");
        Counted behind = Checks.rowOf(1, 2, 3);
        behind.put(3, 9);
        c.row(behind, "1 2 3 9");
    }

    private static void takePlaces() {
        Counted none = new Counted();
        for (int place : new int[] {LOW, -1, 0, 1, HIGH}) {
            c.refused(none, "take(" + place + ") of an empty row", y -> y.take(place), INVALID);
        }
        Counted x = Checks.rowOfSize(40);
        for (int place : new int[] {LOW, LOW + 1, -1, 40, 41, HIGH - 1, HIGH}) {
            c.refused(x, "take(" + place + ") of a full row", y -> y.take(place), INVALID);
        }
        c.due("take(39)", x.take(39), 39);
        c.refused(x, "take(39) of 39 words", y -> y.take(39), INVALID);
        c.due("take(0)", x.take(0), 0);
        c.due("words", x.count(0), 38);
        c.due("the first word", x.wordAt(0), 1);
        c.due("the last word", x.wordAt(37), 38);
    }

    private static void takeTheOnlyWord() {
        Counted x = Checks.rowOf(99);
        c.refused(x, "take(1) of one word", y -> y.take(1), INVALID);
        c.due("take(0) of one word", x.take(0), 99);
        c.due("no word is left", x.count(0), 0);
        c.due("none is told", x.wordAt(0), Checks.MISSING);
    }

    private static void takeReturnsZeroToo() {
        Counted x = Checks.rowOf(0, 0);
        c.due("take(1) of the word 0", x.take(1), 0);
        c.due("take(0) of the word 0", x.take(0), 0);
        c.due("edits", x.count(3), 4);
    }

    private static void changePlaces() {
        Counted none = new Counted();
        for (int place : new int[] {LOW, -1, 0, 1, HIGH}) {
            c.refused(none, "change(" + place + ", 5) in an empty row", y -> y.change(place, 5), INVALID);
        }
        Counted x = Checks.rowOf(1, 2, 3);
        for (int place : new int[] {LOW, LOW + 1, -1, 3, 4, 39, 40, HIGH - 1, HIGH}) {
            c.refused(x, "change(" + place + ", 5)", y -> y.change(place, 5), INVALID);
        }
        c.due("change(0, 7)", x.change(0, 7), 1);
        c.due("change(2, 8)", x.change(2, 8), 3);
        c.row(x, "7 2 8");
    }

    private static void changeWords() {
        Counted x = Checks.rowOf(1, 2);
        for (int word : new int[] {LOW, LOW + 1, -1, 100, 101, HIGH - 1, HIGH}) {
            c.refused(x, "change(1, " + word + ")", y -> y.change(1, word), INVALID);
        }
        c.due("change(1, 0)", x.change(1, 0), 2);
        c.due("change(1, 99)", x.change(1, 99), 0);
        c.due("change(1, 1)", x.change(1, 1), 99);
        c.row(x, "1 1");
    }

    private static void changeInFullRow() {
        Counted x = Checks.rowOfSize(40);
        c.refused(x, "change(40, 5) in a full row", y -> y.change(40, 5), INVALID);
        c.due("change(39, 99) in a full row", x.change(39, 99), 39);
        c.due("change(0, 98) in a full row", x.change(0, 98), 0);
        c.due("words", x.count(0), 40);
        c.due("the last word", x.wordAt(39), 99);
    }

    private static void changeToWhatItIs() {
        Counted x = Checks.rowOf(4, 5);
        x.anchor(0);
        x.anchor(1);
        c.due("change(1, 5)", x.change(1, 5), 5);
        c.due("its anchor has no true place", x.anchorOf(1, 1), Checks.MISSING);
        c.due("the other one has", x.anchorOf(0, 1), 0);
        c.due("an edit", x.count(3), 3);
        c.due("a change", x.undo(), 3);
        c.due("undone", x.anchorOf(1, 1), 1);
    }

    private static void moveFrom() {
        Counted x = Checks.rowOf(1, 2, 3, 4);
        for (int from : new int[] {LOW, LOW + 1, -1, 4, 5, HIGH - 1, HIGH}) {
            c.refused(x, "move(" + from + ", 1, 0)", y -> y.move(from, 1, 0), INVALID);
        }
        c.due("move(3, 1, 0)", x.move(3, 1, 0), 4);
        c.row(x, "4 1 2 3");
        c.due("move(0, 1, 3)", x.move(0, 1, 3), 4);
        c.row(x, "1 2 3 4");
    }

    private static void moveMany() {
        Counted x = Checks.rowOf(1, 2, 3, 4);
        for (int many : new int[] {LOW, LOW + 1, -1, 0, 4, 5, HIGH - 1, HIGH}) {
            c.refused(x, "move(1, " + many + ", 0)", y -> y.move(1, many, 0), INVALID);
        }
        c.refused(x, "move(3, 2, 0)", y -> y.move(3, 2, 0), INVALID);
        c.refused(x, "move(0, 5, 0)", y -> y.move(0, 5, 0), INVALID);
        c.due("move(1, 3, 0)", x.move(1, 3, 0), 4);
        c.row(x, "2 3 4 1");
        c.due("move(1, 1, 0)", x.move(1, 1, 0), 2);
        c.row(x, "3 2 4 1");
    }

    private static void moveTo() {
        Counted x = Checks.rowOf(1, 2, 3, 4, 5);
        for (int to : new int[] {LOW, LOW + 1, -1, 4, 5, HIGH - 1, HIGH}) {
            c.refused(x, "move(1, 2, " + to + ")", y -> y.move(1, 2, to), INVALID);
        }
        c.due("move(1, 2, 3)", x.move(1, 2, 3), 4);
        c.row(x, "1 4 5 2 3");
        c.due("move(3, 2, 0)", x.move(3, 2, 0), 5);
        c.row(x, "2 3 1 4 5");
        c.refused(x, "move(0, 5, 1)", y -> y.move(0, 5, 1), INVALID);
        c.refused(x, "move(LOW, LOW, LOW)", y -> y.move(LOW, LOW, LOW), INVALID);
        c.refused(x, "move(HIGH, HIGH, HIGH)", y -> y.move(HIGH, HIGH, HIGH), INVALID);
        c.refused(x, "move(0, HIGH, HIGH)", y -> y.move(0, HIGH, HIGH), INVALID);
        c.refused(x, "move(0, LOW, HIGH)", y -> y.move(0, LOW, HIGH), INVALID);
    }

    private static void moveInEmptyRow() {
        Counted x = new Counted();
        c.refused(x, "move(0, 0, 0) in an empty row", y -> y.move(0, 0, 0), INVALID);
        c.refused(x, "move(0, 1, 0) in an empty row", y -> y.move(0, 1, 0), INVALID);
        c.refused(x, "move(-1, 1, 0) in an empty row", y -> y.move(-1, 1, 0), INVALID);
    }

    private static void moveOfOneWord() {
        Counted x = Checks.rowOf(5);
        c.due("move(0, 1, 0) of the only word", x.move(0, 1, 0), 0);
        c.refused(x, "move(0, 1, 1) of the only word", y -> y.move(0, 1, 1), INVALID);
        c.refused(x, "move(0, 2, 0) of the only word", y -> y.move(0, 2, 0), INVALID);
        Counted two = Checks.rowOf(5, 6);
        c.due("move(0, 1, 1) of two words", two.move(0, 1, 1), 2);
        c.row(two, "6 5");
    }

    private static void moveOfAllWords() {
        Counted x = Checks.rowOf(1, 2, 3);
        c.due("move(0, 3, 0)", x.move(0, 3, 0), 0);
        c.row(x, "1 2 3");
        c.due("an edit", x.count(3), 4);
    }

    private static void moveInFullRow() {
        Counted x = Checks.rowOfSize(40);
        c.due("move(0, 40, 0)", x.move(0, 40, 0), 0);
        c.refused(x, "move(0, 41, 0)", y -> y.move(0, 41, 0), INVALID);
        c.refused(x, "move(0, 40, 1)", y -> y.move(0, 40, 1), INVALID);
        c.refused(x, "move(40, 1, 0)", y -> y.move(40, 1, 0), INVALID);
        c.refused(x, "move(0, 1, 40)", y -> y.move(0, 1, 40), INVALID);
        c.due("move(0, 39, 1)", x.move(0, 39, 1), 40);
        c.due("the last word is the first one", x.wordAt(0), 39);
        c.due("the one ahead of it is the last one", x.wordAt(39), 38);
        c.due("move(0, 1, 39)", x.move(0, 1, 39), 40);
        c.due("back again", x.wordAt(39), 39);
        c.due("move(39, 1, 38)", x.move(39, 1, 38), 2);
        c.due("the last two", x.wordAt(38), 39);
    }

    private static void moveCountsPlacesNotWords() {
        Counted x = Checks.rowOf(7, 7, 7, 7, 7);
        c.due("move(0, 2, 1) of like words", x.move(0, 2, 1), 3);
        c.due("move(4, 1, 0) of like words", x.move(4, 1, 0), 5);
        c.due("move(1, 3, 1) of like words", x.move(1, 3, 1), 0);
    }

    private static void moveToWhereItIs() {
        Counted x = Checks.rowOf(1, 2, 3);
        x.anchor(1);
        c.due("move(1, 2, 1)", x.move(1, 2, 1), 0);
        c.due("its true place stays", x.anchorOf(0, 1), 1);
        c.due("an edit", x.count(3), 4);
        c.due("a change", x.undo(), 3);
        c.due("undone", x.count(3), 3);
    }

    private static void wordAtPlaces() {
        Counted x = Checks.rowOf(0, 50, 99);
        c.due("wordAt(0)", x.wordAt(0), 0);
        c.due("wordAt(2)", x.wordAt(2), 99);
        for (int place : new int[] {LOW, LOW + 1, -40, -1}) {
            c.refused(x, "wordAt(" + place + ")", y -> y.wordAt(place), INVALID);
        }
        Counted none = new Counted();
        c.refused(none, "wordAt(-1) of an empty row", y -> y.wordAt(-1), INVALID);
    }

    private static void wordAtBehindTheRow() {
        Counted none = new Counted();
        c.refused(none, "wordAt(0) of an empty row", y -> y.wordAt(0), Checks.MISSING);
        Counted x = Checks.rowOf(1, 2, 3);
        x.take(2);
        for (int place : new int[] {2, 3, 39, 40, 41, HIGH - 1, HIGH}) {
            c.refused(x, "wordAt(" + place + ")", y -> y.wordAt(place), Checks.MISSING);
        }
        Counted full = Checks.rowOfSize(40);
        c.due("wordAt(39) of a full row", full.wordAt(39), 39);
        c.refused(full, "wordAt(40) of a full row", y -> y.wordAt(40), Checks.MISSING);
    }
}
