/** Promises 2 to 5: put, take, change and move, and how true places follow them. */
public final class EditsTest {
    private static final int LOW = Checks.LOW;
    private static final int HIGH = Checks.HIGH;

    public static void main(String[] args) {
        Checks c = new Checks("EditsTest");
        put(c);
        take(c);
        change(c);
        move(c);
        everyMove(c);
        c.end();
    }

    private static void put(Checks c) {
        Counted x = new Counted();
        c.due("put(0, 0)", x.put(0, 0), 1);
        c.due("put(1, 99)", x.put(1, 99), 2);
        c.due("put(0, 7)", x.put(0, 7), 3);
        c.due("put(1, 8)", x.put(1, 8), 4);
        c.row(x, "7 8 0 99");
        c.refused(x, "put(5, 1)", y -> y.put(5, 1), Checks.INVALID);
        c.refused(x, "put(-1, 1)", y -> y.put(-1, 1), Checks.INVALID);
        c.refused(x, "put(0, -1)", y -> y.put(0, -1), Checks.INVALID);
        c.refused(x, "put(0, 100)", y -> y.put(0, 100), Checks.INVALID);
        c.refused(x, "put(LOW, HIGH)", y -> y.put(LOW, HIGH), Checks.INVALID);
        c.refused(x, "put(HIGH, 0)", y -> y.put(HIGH, 0), Checks.INVALID);
        truePlacesAfterPut(c);
        for (int k = 4; k < 40; k++) {
            c.due("put at the end", x.put(k, k), k + 1);
        }
        c.refused(x, "put(0, 1) into a full row", y -> y.put(0, 1), Checks.LIMIT);
        c.refused(x, "put(40, 1) into a full row", y -> y.put(40, 1), Checks.LIMIT);
        c.refused(x, "put(41, 1) into a full row", y -> y.put(41, 1), Checks.INVALID);
        c.refused(x, "put(0, 100) into a full row", y -> y.put(0, 100), Checks.INVALID);
        c.due("wordAt(39)", x.wordAt(39), 39);
        c.due("take(0)", x.take(0), 7);
        c.due("put(39, 5)", x.put(39, 5), 40);
        c.due("edits", x.count(3), 42);
    }

    private static void truePlacesAfterPut(Checks c) {
        Counted x = Checks.rowOf(1, 2, 3);
        x.anchor(0);
        x.anchor(1);
        x.anchor(2);
        x.put(1, 9);
        c.due("true place ahead of the new word", x.anchorOf(0, 1), 0);
        c.due("true place of the word that stood there", x.anchorOf(1, 1), 2);
        c.due("true place behind the new word", x.anchorOf(2, 1), 3);
        c.due("its place stays", x.anchorOf(2, 0), 2);
        x.put(4, 9);
        c.due("true place ahead of a word at the end", x.anchorOf(2, 1), 3);
    }

    private static void take(Checks c) {
        Counted x = Checks.rowOf(1, 2, 3, 4);
        x.anchor(0);
        x.anchor(2);
        x.anchor(3);
        c.refused(x, "take(4)", y -> y.take(4), Checks.INVALID);
        c.refused(x, "take(-1)", y -> y.take(-1), Checks.INVALID);
        c.refused(x, "take(HIGH)", y -> y.take(HIGH), Checks.INVALID);
        c.due("take(2)", x.take(2), 3);
        c.row(x, "1 2 4");
        c.due("true place ahead", x.anchorOf(0, 1), 0);
        c.due("true place of the word that went", x.anchorOf(1, 1), Checks.MISSING);
        c.due("true place behind", x.anchorOf(2, 1), 2);
        c.due("the place of an anchor stays", x.anchorOf(2, 0), 3);
        c.due("put(2, 3)", x.put(2, 3), 4);
        c.due("a word like it is not the word that went", x.anchorOf(1, 1), Checks.MISSING);
        c.due("take(3)", x.take(3), 4);
        c.due("take(2)", x.take(2), 3);
        c.due("take(1)", x.take(1), 2);
        c.due("take(0)", x.take(0), 1);
        c.refused(x, "take(0) from an empty row", y -> y.take(0), Checks.INVALID);
        c.due("none has a true place", x.anchors(4), 7);
    }

    private static void change(Checks c) {
        Counted x = Checks.rowOf(1, 2, 3);
        x.anchor(0);
        x.anchor(1);
        x.anchor(2);
        c.refused(x, "change(3, 0)", y -> y.change(3, 0), Checks.INVALID);
        c.refused(x, "change(-1, 0)", y -> y.change(-1, 0), Checks.INVALID);
        c.refused(x, "change(0, 100)", y -> y.change(0, 100), Checks.INVALID);
        c.refused(x, "change(0, -1)", y -> y.change(0, -1), Checks.INVALID);
        c.due("change(1, 99)", x.change(1, 99), 2);
        c.row(x, "1 99 3");
        c.due("only its anchor has no true place", x.anchors(4), 2);
        c.due("change(2, 3)", x.change(2, 3), 3);
        c.due("a change to what it is takes the true place, too", x.anchors(4), 6);
        c.due("the other true place", x.anchorOf(0, 1), 0);
        c.due("change(1, 2)", x.change(1, 2), 99);
        c.due("a true place does not come back", x.anchors(4), 6);
        c.due("edits", x.count(3), 6);
        x.put(0, 7);
        c.due("true place behind a word at the start", x.anchorOf(0, 1), 1);
        x.anchor(0);
        x.change(2, 50);
        c.due("a change elsewhere leaves the first place", x.anchorOf(3, 1), 0);
        c.due("and the next one", x.anchorOf(0, 1), 1);
    }

    private static void move(Checks c) {
        Counted x = Checks.rowOf(1, 2, 3, 4, 5, 6);
        x.anchor(0);
        x.anchor(2);
        x.anchor(5);
        c.refused(x, "move(6, 1, 0)", y -> y.move(6, 1, 0), Checks.INVALID);
        c.refused(x, "move(-1, 1, 0)", y -> y.move(-1, 1, 0), Checks.INVALID);
        c.refused(x, "move(0, 0, 0)", y -> y.move(0, 0, 0), Checks.INVALID);
        c.refused(x, "move(0, -1, 0)", y -> y.move(0, -1, 0), Checks.INVALID);
        c.refused(x, "move(4, 3, 0)", y -> y.move(4, 3, 0), Checks.INVALID);
        c.refused(x, "move(4, 2, 5)", y -> y.move(4, 2, 5), Checks.INVALID);
        c.refused(x, "move(4, 2, -1)", y -> y.move(4, 2, -1), Checks.INVALID);
        c.refused(x, "move(5, HIGH, 0)", y -> y.move(5, HIGH, 0), Checks.INVALID);
        c.refused(x, "move(HIGH, HIGH, HIGH)", y -> y.move(HIGH, HIGH, HIGH), Checks.INVALID);
        c.refused(x, "move(0, LOW, LOW)", y -> y.move(0, LOW, LOW), Checks.INVALID);
        c.due("move(4, 2, 1)", x.move(4, 2, 1), 5);
        c.row(x, "1 5 6 2 3 4");
        c.due("true place outside of the move", x.anchorOf(0, 1), 0);
        c.due("true place of a word that made room", x.anchorOf(1, 1), 4);
        c.due("true place of a word of the block", x.anchorOf(2, 1), 2);
        c.due("move(1, 2, 4)", x.move(1, 2, 4), 5);
        c.row(x, "1 2 3 4 5 6");
        c.due("true place of the block's word again", x.anchorOf(2, 1), 5);
        c.due("move(2, 3, 2)", x.move(2, 3, 2), 0);
        c.due("move(0, 6, 0)", x.move(0, 6, 0), 0);
        c.due("a move to where it is is an edit", x.count(3), 10);
        c.row(x, "1 2 3 4 5 6");
        Counted same = Checks.rowOf(7, 7, 7);
        c.due("words count, not what they are", same.move(0, 1, 2), 3);
        Counted none = new Counted();
        c.refused(none, "move(0, 1, 0) in an empty row", y -> y.move(0, 1, 0), Checks.INVALID);
        c.due("edits of none", none.count(3), 0);
    }

    /** Every move of a row of seven, against the words told one by one. */
    private static void everyMove(Checks c) {
        int size = 7;
        for (int from = 0; from < size; from++) {
            for (int many = 1; from + many <= size; many++) {
                for (int to = 0; to <= size - many; to++) {
                    oneMove(c, size, from, many, to);
                }
            }
        }
    }

    private static void oneMove(Checks c, int size, int from, int many, int to) {
        java.util.List<Integer> words = new java.util.ArrayList<>();
        for (int k = 0; k < size; k++) {
            words.add(k);
        }
        Counted x = Checks.rowOf(0, 1, 2, 3, 4, 5, 6);
        for (int k = 1; k < size; k++) {
            x.anchor(k);
        }
        java.util.List<Integer> block = new java.util.ArrayList<>(words.subList(from, from + many));
        words.subList(from, from + many).clear();
        words.addAll(to, block);
        int elsewhere = 0;
        for (int k = 0; k < size; k++) {
            elsewhere += words.get(k) == k ? 0 : 1;
        }
        String call = "move(" + from + ", " + many + ", " + to + ")";
        c.due(call, x.move(from, many, to), elsewhere);
        for (int k = 0; k < size; k++) {
            c.due(call + " wordAt(" + k + ")", x.wordAt(k), words.get(k));
        }
        for (int k = 1; k < size; k++) {
            c.due(call + " true place of " + k, x.anchorOf(k - 1, 1), words.indexOf(k));
        }
    }
}
