/** Promises 6 to 11: anchor, drop, find, findAll, remember and set. */
public final class AnchorsTest {
    private static final int LOW = Checks.LOW;
    private static final int HIGH = Checks.HIGH;

    public static void main(String[] args) {
        Checks c = new Checks("AnchorsTest");
        anchor(c);
        drop(c);
        find(c);
        findTies(c);
        findAll(c);
        remember(c);
        set(c);
        c.end();
    }

    private static void anchor(Checks c) {
        Counted x = Checks.rowOf(1, 2, 3);
        c.refused(x, "anchor(3)", y -> y.anchor(3), Checks.INVALID);
        c.refused(x, "anchor(-1)", y -> y.anchor(-1), Checks.INVALID);
        c.due("anchor(2)", x.anchor(2), 0);
        c.due("its place", x.anchorOf(0, 0), 2);
        c.due("its true place", x.anchorOf(0, 1), 2);
        c.due("two places ahead", x.anchorOf(0, 2), 1);
        c.due("one place ahead", x.anchorOf(0, 3), 2);
        c.due("its word", x.anchorOf(0, 4), 3);
        c.due("one place behind", x.anchorOf(0, 5), Checks.MISSING);
        c.due("two places behind", x.anchorOf(0, 6), Checks.MISSING);
        for (int k = 1; k < 6; k++) {
            c.due("anchor(0)", x.anchor(0), k);
        }
        c.refused(x, "a seventh anchor", y -> y.anchor(0), Checks.LIMIT);
        c.refused(x, "a seventh anchor at no place", y -> y.anchor(3), Checks.INVALID);
        c.due("anchors", x.count(1), 6);
        c.due("no edits", x.count(3), 3);
    }

    private static void drop(Checks c) {
        Counted x = Checks.rowOf(10, 11, 12, 13);
        c.refused(x, "drop(0) without anchors", y -> y.drop(0), Checks.INVALID);
        for (int k = 0; k < 4; k++) {
            x.anchor(k);
        }
        x.take(3);
        c.refused(x, "drop(4)", y -> y.drop(4), Checks.INVALID);
        c.refused(x, "drop(-1)", y -> y.drop(-1), Checks.INVALID);
        c.refused(x, "drop(LOW)", y -> y.drop(LOW), Checks.INVALID);
        c.due("drop(1)", x.drop(1), 3);
        c.due("the one ahead", x.anchorOf(0, 4), 10);
        c.due("the next one", x.anchorOf(1, 4), 12);
        c.due("its place", x.anchorOf(1, 0), 2);
        c.due("the last one", x.anchorOf(2, 4), 13);
        c.due("its place", x.anchorOf(2, 0), 3);
        c.due("its true place", x.anchorOf(2, 1), Checks.MISSING);
        c.due("drop(2)", x.drop(2), 2);
        c.due("drop(0)", x.drop(0), 1);
        c.due("the one that is left", x.anchorOf(0, 4), 12);
        c.due("drop(0)", x.drop(0), 0);
        c.due("anchor(1)", x.anchor(1), 0);
        c.due("a new one has its own true place", x.anchorOf(0, 1), 1);
    }

    private static void find(Checks c) {
        Counted x = Checks.rowOf(1, 2, 3, 4, 5);
        x.anchor(3);
        c.refused(x, "find(1)", y -> y.find(1), Checks.INVALID);
        c.refused(x, "find(-1)", y -> y.find(-1), Checks.INVALID);
        c.due("find(0) where it is", x.find(0), 3);
        x.take(0);
        x.take(0);
        c.due("find(0)", x.find(0), 1);
        c.due("its place", x.anchorOf(0, 0), 1);
        c.due("it remembers as before", x.anchorOf(0, 2), 2);
        c.due("its true place is as before", x.anchorOf(0, 1), 1);
        x.put(0, 8);
        x.take(2);
        x.change(1, 9);
        x.change(2, 9);
        c.row(x, "8 9 9");
        c.due("the greatest score", x.anchorOf(0, 9), 1);
        c.refused(x, "find(0) of a lost one", y -> y.find(0), Checks.IMPOSSIBLE);
        c.due("set(3, 1)", x.set(3, 1), 5);
        c.due("a score as great as the least one will do", x.find(0), 1);
        c.due("set(3, 2)", x.set(3, 2), 1);
        c.refused(x, "find(0) below the least score", y -> y.find(0), Checks.IMPOSSIBLE);
        Counted none = Checks.rowOf(1);
        none.anchor(0);
        none.set(3, 0);
        none.take(0);
        c.refused(none, "find(0) in an empty row", y -> y.find(0), Checks.IMPOSSIBLE);
        c.refused(none, "find(1) in an empty row", y -> y.find(1), Checks.INVALID);
    }

    /** With no weights all places are alike: the nearest one wins, then the lower one. */
    private static void findTies(Checks c) {
        Counted x = Checks.rowOf(1, 2, 3, 4, 5);
        x.anchor(3);
        for (int what = 0; what <= 3; what++) {
            x.set(what, 0);
        }
        c.due("best place", x.anchorOf(0, 8), 3);
        c.due("next best place, of two as near the lower one", x.anchorOf(0, 10), 2);
        c.due("score", x.anchorOf(0, 11), 0);
        x.take(4);
        x.take(3);
        c.due("the place nearest to one that is not in the row", x.anchorOf(0, 8), 2);
        c.due("the next nearest", x.anchorOf(0, 10), 1);
        c.due("find(0)", x.find(0), 2);
        x.set(0, 1);
        x.change(0, 4);
        x.change(1, 4);
        x.change(2, 4);
        x.put(3, 4);
        x.put(4, 4);
        c.due("of equals the nearest to its place", x.anchorOf(0, 8), 2);
        c.due("then of two as near the lower one", x.anchorOf(0, 10), 1);
        x.change(2, 5);
        x.change(1, 5);
        c.due("the nearest, though a lower one is there", x.anchorOf(0, 8), 3);
        c.due("as near to its place, not to the best one", x.anchorOf(0, 10), 0);
    }

    private static void findAll(Checks c) {
        Counted x = new Counted();
        c.due("findAll() without anchors", x.findAll(), 0);
        c.due("is a change", x.count(4), 1);
        for (int k = 0; k < 8; k++) {
            x.put(k, 10 + k);
        }
        x.anchor(1);
        x.anchor(4);
        x.anchor(6);
        x.put(4, 50);
        x.take(7);
        x.change(6, 51);
        x.change(7, 52);
        x.change(5, 10);
        c.row(x, "10 11 12 13 50 10 51 52");
        c.due("lost", x.anchors(2), 6);
        c.due("score of 1", x.anchorOf(1, 9), 4);
        c.due("best place of 2", x.anchorOf(2, 8), 6);
        x.set(3, 6);
        c.due("findAll()", x.findAll(), 0);
        c.due("a lost one keeps its place", x.anchorOf(1, 0), 4);
        x.change(5, 14);
        c.due("findAll()", x.findAll(), 1);
        c.due("place of 0", x.anchorOf(0, 0), 1);
        c.due("place of 1", x.anchorOf(1, 0), 5);
        c.due("place of 2", x.anchorOf(2, 0), 6);
        c.due("findAll() again", x.findAll(), 0);
    }

    private static void remember(Checks c) {
        Counted x = Checks.rowOf(1, 2, 3, 4, 5);
        x.anchor(2);
        x.anchor(4);
        c.refused(x, "remember(2)", y -> y.remember(2), Checks.INVALID);
        c.refused(x, "remember(-1)", y -> y.remember(-1), Checks.INVALID);
        c.due("remember(0) as it is", x.remember(0), 0);
        x.change(2, 3);
        c.due("no true place", x.anchorOf(0, 1), Checks.MISSING);
        c.due("remember(0) with the same word", x.remember(0), 0);
        c.due("its true place", x.anchorOf(0, 1), 2);
        x.take(0);
        c.due("true place of 0", x.anchorOf(0, 1), 1);
        c.due("remember(0)", x.remember(0), 5);
        c.due("its place stays", x.anchorOf(0, 0), 2);
        c.due("its true place is its place", x.anchorOf(0, 1), 2);
        c.due("two ahead", x.anchorOf(0, 2), 2);
        c.due("its word", x.anchorOf(0, 4), 4);
        c.due("two behind", x.anchorOf(0, 6), Checks.MISSING);
        c.refused(x, "remember(1) behind the row", y -> y.remember(1), Checks.IMPOSSIBLE);
        c.due("find(1)", x.find(1), 3);
        c.due("remember(1)", x.remember(1), 0);
        x.take(3);
        c.refused(x, "remember(1) just behind the row", y -> y.remember(1), Checks.IMPOSSIBLE);
        x.put(3, 9);
        c.due("remember(1) with another word", x.remember(1), 1);
    }

    private static void set(Checks c) {
        Counted x = new Counted();
        int[] first = {6, 3, 1, 5, 2};
        int[] greatest = {20, 20, 20, 60, 60};
        for (int k = 0; k < 5; k++) {
            int what = k;
            c.due("set(" + k + ", 0)", x.set(k, 0), first[k]);
            c.due("set(" + k + ", greatest)", x.set(k, greatest[k]), 0);
            c.due("count", x.count(20 + k), greatest[k]);
            c.refused(x, "set(" + k + ", greatest + 1)", y -> y.set(what, greatest[what] + 1), Checks.INVALID);
            c.refused(x, "set(" + k + ", -1)", y -> y.set(what, -1), Checks.INVALID);
            c.refused(x, "set(" + k + ", HIGH)", y -> y.set(what, HIGH), Checks.INVALID);
        }
        c.refused(x, "set(5, 0)", y -> y.set(5, 0), Checks.INVALID);
        c.refused(x, "set(-1, 0)", y -> y.set(-1, 0), Checks.INVALID);
        c.refused(x, "set(LOW, LOW)", y -> y.set(LOW, LOW), Checks.INVALID);
        c.due("set to what it is", x.set(0, 20), 20);
        c.due("is a change", x.count(4), 4);
        c.due("no edits", x.count(3), 0);
        weights(c);
    }

    private static void weights(Checks c) {
        Counted x = Checks.rowOf(1, 2, 3, 4, 5);
        x.anchor(2);
        c.due("all five", x.score(0, 2), 14);
        x.set(0, 10);
        c.due("weight of the word", x.score(0, 2), 18);
        x.set(1, 20);
        c.due("weight of the next ones", x.score(0, 2), 52);
        x.set(2, 0);
        c.due("weight of those behind them", x.score(0, 2), 50);
        x.take(0);
        c.due("one ahead or behind alone", x.score(0, 1), 50);
        x.change(0, 9);
        c.due("without one of them", x.score(0, 1), 30);
    }
}
