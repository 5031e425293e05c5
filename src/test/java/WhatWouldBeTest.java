/** Promises 17 to 20: wouldTake, safest, clearest and count. */
public final class WhatWouldBeTest {
    private static final int LOW = Checks.LOW;
    private static final int HIGH = Checks.HIGH;

    public static void main(String[] args) {
        Checks c = new Checks("WhatWouldBeTest");
        wouldTake(c);
        safest(c);
        clearest(c);
        count(c);
        c.end();
    }

    private static void wouldTake(Checks c) {
        Counted x = Checks.rowOf(1, 2, 3, 4, 5, 6);
        x.anchor(0);
        x.anchor(3);
        x.anchor(5);
        x.set(3, 9);
        String before = Checks.view(x);
        int[] lost = {1, 0, 0, 2, 0, 4};
        int[] truly = {6, 7, 7, 5, 7, 3};
        for (int place = 0; place < 6; place++) {
            c.due("wouldTake(" + place + ", 0)", x.wouldTake(place, 0), lost[place]);
            c.due("wouldTake(" + place + ", 1)", x.wouldTake(place, 1), truly[place]);
        }
        c.holds("nothing is changed by asking", before.equals(Checks.view(x)));
        c.refused(x, "wouldTake(6, 0)", y -> y.wouldTake(6, 0), Checks.INVALID);
        c.refused(x, "wouldTake(-1, 0)", y -> y.wouldTake(-1, 0), Checks.INVALID);
        c.refused(x, "wouldTake(0, 2)", y -> y.wouldTake(0, 2), Checks.INVALID);
        c.refused(x, "wouldTake(0, -1)", y -> y.wouldTake(0, -1), Checks.INVALID);
        c.refused(x, "wouldTake(HIGH, LOW)", y -> y.wouldTake(HIGH, LOW), Checks.INVALID);
        x.take(3);
        c.due("one that is lost already", x.wouldTake(1, 0), 2);
        Counted one = Checks.rowOf(1);
        one.anchor(0);
        one.set(3, 0);
        c.due("of one word: lost", one.wouldTake(0, 0), 1);
        c.due("of one word: none is found truly", one.wouldTake(0, 1), 0);
        Counted near = Checks.rowOf(5, 5);
        near.anchor(1);
        c.due("the other word is taken for it", near.wouldTake(1, 0), 0);
        c.due("but it is not it", near.wouldTake(1, 1), 0);
        c.due("it is itself still", near.wouldTake(0, 1), 1);
        Counted none = new Counted();
        c.due("wouldTake(0, 0) of an empty row", none.wouldTake(0, 0), Checks.INVALID);
    }

    private static void safest(Checks c) {
        Counted x = Checks.rowOf(1, 2, 3, 4);
        c.due("safest(0) without anchors", x.safest(0), 0);
        c.due("safest(1) without anchors", x.safest(1), 0);
        x.set(3, 9);
        x.anchor(0);
        x.anchor(0);
        x.anchor(1);
        x.anchor(1);
        x.anchor(2);
        String before = Checks.view(x);
        c.due("safest(0)", x.safest(0), 3);
        c.due("safest(1)", x.safest(1), 0);
        c.holds("nothing is changed by asking", before.equals(Checks.view(x)));
        x.anchor(3);
        x.take(3);
        x.drop(0);
        c.due("safest(0) with a lost one", x.safest(0), 0);
        c.due("safest(1) counts the lost one, too", x.safest(1), 2);
        c.refused(x, "safest(2)", y -> y.safest(2), Checks.INVALID);
        c.refused(x, "safest(-1)", y -> y.safest(-1), Checks.INVALID);
        Counted none = new Counted();
        c.due("safest(0) of an empty row", none.safest(0), Checks.MISSING);
        c.due("safest(1) of an empty row", none.safest(1), Checks.MISSING);
        c.due("safest(2) of an empty row", none.safest(2), Checks.INVALID);
        Counted all = Checks.rowOf(1, 2);
        for (int k = 0; k < 6; k++) {
            all.anchor(0);
        }
        all.set(3, 60);
        c.due("safest(0) if all are lost", all.safest(0), 0);
        c.due("safest(1) if all are lost", all.safest(1), 6);
    }

    private static void clearest(Checks c) {
        Counted x = Checks.rowOf(1, 1, 1, 2, 1, 1);
        x.anchor(3);
        String before = Checks.view(x);
        c.due("clearest(0)", x.clearest(0), 3);
        c.due("clearest(1)", x.clearest(1), 8);
        c.holds("nothing is changed by asking", before.equals(Checks.view(x)));
        Counted like = Checks.rowOf(4, 4, 4, 4, 4, 4);
        c.due("of several the lowest", like.clearest(0), 0);
        c.due("its difference", like.clearest(1), 3);
        Counted one = Checks.rowOf(4);
        c.due("one word", one.clearest(0), 0);
        c.due("its score alone", one.clearest(1), 14);
        one.set(0, 20);
        c.due("with another weight", one.clearest(1), 28);
        for (int what = 0; what <= 2; what++) {
            x.set(what, 0);
        }
        c.due("without weights: the lowest", x.clearest(0), 0);
        c.due("without weights: no difference", x.clearest(1), 0);
        c.refused(x, "clearest(2)", y -> y.clearest(2), Checks.INVALID);
        c.refused(x, "clearest(-1)", y -> y.clearest(-1), Checks.INVALID);
        c.refused(x, "clearest(LOW)", y -> y.clearest(LOW), Checks.INVALID);
        Counted none = new Counted();
        c.due("clearest(0) of an empty row", none.clearest(0), Checks.MISSING);
        c.due("clearest(1) of an empty row", none.clearest(1), Checks.MISSING);
        c.due("clearest(2) of an empty row", none.clearest(2), Checks.INVALID);
    }

    private static void count(Checks c) {
        Counted x = Checks.rowOf(5, 6, 5, 5, 0);
        c.due("words", x.count(0), 5);
        c.due("unlike words", x.count(2), 3);
        c.due("edits", x.count(3), 5);
        c.due("states", x.count(4), 4);
        x.anchor(0);
        x.anchor(4);
        c.due("anchors", x.count(1), 2);
        x.take(4);
        x.change(1, 5);
        x.move(0, 1, 2);
        c.due("unlike words", x.count(2), 1);
        c.due("edits", x.count(3), 8);
        x.set(4, 9);
        x.findAll();
        x.find(0);
        x.remember(0);
        x.drop(1);
        c.due("no edits", x.count(3), 8);
        c.due("a setting", x.count(24), 9);
        Checks.typeAll(x, "+0,7;-0;");
        c.due("length of the text", x.count(5), 8);
        x.play();
        c.due("edits of texts, too", x.count(3), 10);
        c.due("the text stays", x.count(5), 8);
        int[] none = {-1, 6, 19, 25, LOW, HIGH};
        for (int what : none) {
            c.refused(x, "count(" + what + ")", y -> y.count(what), Checks.INVALID);
        }
    }
}
