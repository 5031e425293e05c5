/** Promises 12 to 16: wordAt, anchorOf, score, anchors and blockOf. */
public final class WhatThereIsTest {
    private static final int LOW = Checks.LOW;
    private static final int HIGH = Checks.HIGH;

    public static void main(String[] args) {
        Checks c = new Checks("WhatThereIsTest");
        wordAt(c);
        anchorOf(c);
        standing(c);
        emptyRow(c);
        score(c);
        anchors(c);
        blockOf(c);
        blocksInOrder(c);
        lostOnesAreInNoBlock(c);
        c.end();
    }

    private static void wordAt(Checks c) {
        Counted x = Checks.rowOf(0, 99);
        c.due("wordAt(0)", x.wordAt(0), 0);
        c.due("wordAt(1)", x.wordAt(1), 99);
        c.refused(x, "wordAt(2)", y -> y.wordAt(2), Checks.MISSING);
        c.refused(x, "wordAt(40)", y -> y.wordAt(40), Checks.MISSING);
        c.refused(x, "wordAt(HIGH)", y -> y.wordAt(HIGH), Checks.MISSING);
        c.refused(x, "wordAt(-1)", y -> y.wordAt(-1), Checks.INVALID);
        c.refused(x, "wordAt(LOW)", y -> y.wordAt(LOW), Checks.INVALID);
        x.take(0);
        c.due("wordAt(1) of a word that moved", x.wordAt(1), Checks.MISSING);
    }

    private static void anchorOf(Checks c) {
        Counted x = Checks.rowOf(1, 2, 3, 4, 5, 6);
        x.anchor(3);
        int[] due = {3, 3, 2, 3, 4, 5, 6, 0, 3, 14, 2, 0, 1};
        for (int what = 0; what < due.length; what++) {
            c.due("anchorOf(0, " + what + ")", x.anchorOf(0, what), due[what]);
        }
        x.move(2, 3, 0);
        c.row(x, "3 4 5 1 2 6");
        int[] moved = {3, 1, 2, 3, 4, 5, 6, 0, 1, 12, 3, 1, 1};
        for (int what = 0; what < moved.length; what++) {
            c.due("moved: anchorOf(0, " + what + ")", x.anchorOf(0, what), moved[what]);
        }
        c.refused(x, "anchorOf(0, 13)", y -> y.anchorOf(0, 13), Checks.INVALID);
        c.refused(x, "anchorOf(0, -1)", y -> y.anchorOf(0, -1), Checks.INVALID);
        c.refused(x, "anchorOf(1, 0)", y -> y.anchorOf(1, 0), Checks.INVALID);
        c.refused(x, "anchorOf(-1, 0)", y -> y.anchorOf(-1, 0), Checks.INVALID);
        c.refused(x, "anchorOf(HIGH, LOW)", y -> y.anchorOf(HIGH, LOW), Checks.INVALID);
        x.change(1, 4);
        c.due("its true place is gone", x.anchorOf(0, 1), Checks.MISSING);
        c.due("its best place is not its true place", x.anchorOf(0, 12), 0);
        c.due("its best place", x.anchorOf(0, 8), 1);
    }

    /** Sure, doubtful and lost, at the very edges of the settings. */
    private static void standing(Checks c) {
        Counted x = Checks.rowOf(1, 2, 3, 1, 2, 4);
        x.anchor(1);
        c.due("best score", x.anchorOf(0, 9), 14);
        c.due("next best place", x.anchorOf(0, 10), 4);
        c.due("next best score", x.anchorOf(0, 11), 9);
        c.due("sure", x.anchorOf(0, 7), 0);
        x.set(4, 5);
        c.due("doubtful at the leeway", x.anchorOf(0, 7), 1);
        x.set(4, 4);
        c.due("sure beyond it", x.anchorOf(0, 7), 0);
        x.set(3, 14);
        c.due("sure at the least score", x.anchorOf(0, 7), 0);
        x.set(3, 15);
        c.due("lost below it", x.anchorOf(0, 7), 2);
        x.set(4, 60);
        c.due("lost rather than doubtful", x.anchorOf(0, 7), 2);
        c.due("a lost one has a best place", x.anchorOf(0, 8), 1);
        c.due("and is at its true place", x.anchorOf(0, 12), 1);
    }

    private static void emptyRow(Checks c) {
        Counted x = Checks.rowOf(1, 2);
        x.anchor(0);
        x.set(3, 0);
        x.set(4, 60);
        c.due("doubtful", x.anchorOf(0, 7), 1);
        x.take(1);
        c.due("one word: best place", x.anchorOf(0, 8), 0);
        c.due("one word: no next best place", x.anchorOf(0, 10), Checks.MISSING);
        c.due("one word: no score there", x.anchorOf(0, 11), Checks.MISSING);
        c.due("one word: sure", x.anchorOf(0, 7), 0);
        x.take(0);
        int[] due = {0, Checks.MISSING, Checks.MISSING, Checks.MISSING, 1, 2, Checks.MISSING,
            2, Checks.MISSING, Checks.MISSING, Checks.MISSING, Checks.MISSING, 0};
        for (int what = 0; what < due.length; what++) {
            c.due("empty: anchorOf(0, " + what + ")", x.anchorOf(0, what), due[what]);
        }
        int[] kinds = {0, 0, 1, 0, 1, 0};
        for (int what = 0; what < kinds.length; what++) {
            c.due("empty: anchors(" + what + ")", x.anchors(what), kinds[what]);
        }
    }

    private static void score(Checks c) {
        Counted x = Checks.rowOf(7, 8, 7, 7);
        x.anchor(0);
        x.set(0, 16);
        x.set(1, 4);
        x.set(2, 1);
        c.due("score at its place", x.score(0, 0), 26);
        c.due("one place behind it", x.score(0, 1), 2);
        c.due("two places behind it", x.score(0, 2), 16);
        c.due("no word where one is remembered", x.score(0, 3), 16);
        x.anchor(3);
        c.due("no words behind the last one", x.score(1, 3), 26);
        c.due("a word where none is remembered", x.score(1, 2), 17);
        c.due("likewise at the first place", x.score(1, 0), 16);
        c.refused(x, "score(0, 4)", y -> y.score(0, 4), Checks.INVALID);
        c.refused(x, "score(0, -1)", y -> y.score(0, -1), Checks.INVALID);
        c.refused(x, "score(2, 0)", y -> y.score(2, 0), Checks.INVALID);
        c.refused(x, "score(-1, 0)", y -> y.score(-1, 0), Checks.INVALID);
        c.refused(x, "score(LOW, HIGH)", y -> y.score(LOW, HIGH), Checks.INVALID);
    }

    private static void anchors(Checks c) {
        Counted x = Checks.rowOf(1, 2, 3, 3, 3, 3, 3, 9);
        x.anchor(0);
        x.anchor(5);
        x.anchor(7);
        x.anchor(1);
        int[] first = {13, 2, 0, 15, 0, 0};
        for (int what = 0; what < first.length; what++) {
            c.due("anchors(" + what + ")", x.anchors(what), first[what]);
        }
        x.change(7, 50);
        x.set(3, 9);
        int[] then = {9, 2, 4, 11, 4, 0};
        for (int what = 0; what < then.length; what++) {
            c.due("then anchors(" + what + ")", x.anchors(what), then[what]);
        }
        x.set(3, 15);
        int[] last = {0, 0, 15, 11, 4, 11};
        for (int what = 0; what < last.length; what++) {
            c.due("all lost: anchors(" + what + ")", x.anchors(what), last[what]);
        }
        c.refused(x, "anchors(6)", y -> y.anchors(6), Checks.INVALID);
        c.refused(x, "anchors(-1)", y -> y.anchors(-1), Checks.INVALID);
        c.refused(x, "anchors(HIGH)", y -> y.anchors(HIGH), Checks.INVALID);
    }

    private static void blockOf(Checks c) {
        Counted x = new Counted();
        for (int k = 0; k < 18; k++) {
            x.put(k, 20 + k);
        }
        int[] places = {1, 4, 7, 10, 13, 16};
        for (int place : places) {
            x.anchor(place);
        }
        c.due("no block", x.blockOf(0, 0), Checks.MISSING);
        x.move(3, 3, 0);
        x.put(9, 90);
        c.row(x, "23 24 25 20 21 22 26 27 28 90 29 30 31 32 33 34 35 36 37");
        int[] sets = {56, 2, 1};
        int[] shifts = {101, 97, 103};
        for (int k = 0; k < sets.length; k++) {
            c.due("blockOf(" + k + ", 0)", x.blockOf(k, 0), sets[k]);
            c.due("blockOf(" + k + ", 1)", x.blockOf(k, 1), shifts[k]);
        }
        c.refused(x, "blockOf(3, 0)", y -> y.blockOf(3, 0), Checks.MISSING);
        c.refused(x, "blockOf(HIGH, 1)", y -> y.blockOf(HIGH, 1), Checks.MISSING);
        c.refused(x, "blockOf(0, 2)", y -> y.blockOf(0, 2), Checks.INVALID);
        c.refused(x, "blockOf(0, -1)", y -> y.blockOf(0, -1), Checks.INVALID);
        c.refused(x, "blockOf(-1, 0)", y -> y.blockOf(-1, 0), Checks.INVALID);
        c.refused(x, "blockOf(9, 9)", y -> y.blockOf(9, 9), Checks.INVALID);
        c.due("found again", x.findAll(), 5);
        c.due("no block", x.blockOf(0, 1), Checks.MISSING);
    }

    private static void blocksInOrder(Checks c) {
        Counted x = Checks.rowOf(1, 2, 3, 4, 5, 6, 7, 8, 9, 10);
        x.anchor(1);
        x.anchor(5);
        x.anchor(6);
        x.put(4, 50);
        x.put(5, 51);
        x.take(0);
        c.row(x, "2 3 4 50 51 5 6 7 8 9 10");
        c.due("one more is enough to be first", x.blockOf(0, 0), 6);
        c.due("its shift", x.blockOf(0, 1), 101);
        c.due("one anchor alone", x.blockOf(1, 0), 1);
        c.due("its shift is less", x.blockOf(1, 1), 99);
        c.due("no third one", x.blockOf(2, 1), Checks.MISSING);
        x.take(4);
        x.take(3);
        c.due("all of them", x.blockOf(0, 0), 7);
        c.due("together", x.blockOf(0, 1), 99);
        c.due("no second one", x.blockOf(1, 0), Checks.MISSING);
    }

    private static void lostOnesAreInNoBlock(Checks c) {
        Counted x = Checks.rowOf(1, 2, 3, 4, 5, 6);
        x.anchor(1);
        x.anchor(2);
        x.put(0, 9);
        c.due("both", x.blockOf(0, 0), 3);
        x.change(2, 9);
        x.change(1, 9);
        x.change(4, 9);
        c.row(x, "9 9 9 3 9 5 6");
        c.due("score of 0", x.anchorOf(0, 9), 3);
        c.due("its best place is elsewhere", x.anchorOf(0, 8), 2);
        c.due("without the lost one", x.blockOf(0, 0), 2);
        c.due("no other block", x.blockOf(1, 0), Checks.MISSING);
        x.set(3, 3);
        c.due("with it again", x.blockOf(0, 0), 3);
        for (int k = 7; k < 40; k++) {
            x.put(0, 9);
        }
        c.due("far away", x.blockOf(0, 1), 134);
    }
}
