import java.util.function.ToIntFunction;

/** 'Changes and errors' at its edges, and promise 21: each sentence has a case of its own. */
public final class HistoryEdgesTest {
    private static final int INVALID = Checks.INVALID;
    private static final int IMPOSSIBLE = Checks.IMPOSSIBLE;
    private static final int LIMIT = Checks.LIMIT;
    private static final int MISSING = Checks.MISSING;

    private static Checks c;

    public static void main(String[] args) {
        c = new Checks("HistoryEdgesTest");
        undoOfNothing();
        undoOfAll();
        fiveStatesAreFour();
        everyChangeIsOneState();
        changesThatChangeNothing();
        everyChangeDropsTheOldest();
        errorsDropNone();
        othersAreNoChanges();
        undoIsNoChange();
        everythingIsRestored();
        theTextIsNot();
        changesAfterUndo();
        undoOfSixAnchors();
        invalidRatherThanNotPossible();
        invalidRatherThanLimit();
        invalidRatherThanNotFound();
        noAnchorIsInvalid();
        theLastOf512Calls();
        c.end();
    }

    private static void undoOfNothing() {
        Counted x = new Counted();
        c.refused(x, "undo() of a new object", y -> y.undo(), IMPOSSIBLE);
        x.type('-');
        x.take(0);
        x.count(0);
        c.refused(x, "undo() without any change", y -> y.undo(), IMPOSSIBLE);
    }

    private static void undoOfAll() {
        for (int changes = 1; changes <= 4; changes++) {
            Counted x = Checks.rowOfSize(changes);
            for (int left = changes - 1; left >= 0; left--) {
                c.due("undo() of " + changes, x.undo(), left);
                c.due("states", x.count(4), left);
                c.due("words", x.count(0), left);
            }
            c.refused(x, "undo() once more than " + changes + " changes", y -> y.undo(), IMPOSSIBLE);
        }
    }

    private static void fiveStatesAreFour() {
        for (int changes = 5; changes <= 13; changes++) {
            Counted x = Checks.rowOfSize(changes);
            c.due("states after " + changes + " changes", x.count(4), 4);
            for (int left = 3; left >= 0; left--) {
                c.due("undo()", x.undo(), left);
                c.due("words", x.count(0), changes - 4 + left);
            }
            c.refused(x, "undo() of a fifth of " + changes, y -> y.undo(), IMPOSSIBLE);
        }
    }

    /** An object in which every kind of change is possible, with an empty history. */
    private static Counted ready() {
        Counted x = Checks.rowOf(1, 2, 3, 4, 5);
        x.anchor(1);
        x.anchor(3);
        x.put(0, 9);
        for (int k = 0; k < 4; k++) {
            x.set(4, k);
        }
        for (int k = 0; k < 4; k++) {
            x.undo();
        }
        return x;
    }

    private interface Tried {
        void change(String name, ToIntFunction<Face> call);
    }

    private static void everyChange(Tried tried) {
        tried.change("put", x -> x.put(6, 0));
        tried.change("take", x -> x.take(0));
        tried.change("change", x -> x.change(5, 99));
        tried.change("move", x -> x.move(0, 5, 1));
        tried.change("anchor", x -> x.anchor(5));
        tried.change("drop", x -> x.drop(0));
        tried.change("find", x -> x.find(1));
        tried.change("findAll", x -> x.findAll());
        tried.change("remember", x -> x.remember(0));
        tried.change("set", x -> x.set(0, 20));
        tried.change("play", x -> x.play());
    }

    private static void idleChange(Tried tried) {
        tried.change("change to what it is", x -> x.change(0, 9));
        tried.change("move to where it is", x -> x.move(1, 2, 1));
        tried.change("find where it is", x -> x.find(0));
        tried.change("findAll that finds none elsewhere", x -> x.findAll());
        tried.change("remember what it remembers", x -> x.remember(0));
        tried.change("set to what it is", x -> x.set(3, 5));
        tried.change("play without edits", x -> x.play());
    }

    private static void oneState(Counted x, String name, ToIntFunction<Face> call) {
        String before = Checks.stateView(x.afterAll());
        int states = x.count(4);
        c.holds(name + " returns no error", call.applyAsInt(x) >= 0);
        c.due(name + ": states", x.count(4), states + 1);
        c.due(name + ": undo()", x.undo(), states);
        c.holds(name + " is undone whole", before.equals(Checks.stateView(x.afterAll())));
    }

    private static void everyChangeIsOneState() {
        everyChange((name, call) -> oneState(ready(), name, call));
        Counted text = ready();
        Checks.typeAll(text, "-0;+0,7;=1,8;>0,2,4;-5;");
        oneState(text, "play of five edits", x -> x.play());
    }

    private static void changesThatChangeNothing() {
        idleChange((name, call) -> {
            Counted x = ready();
            x.findAll();
            x.undo();
            x.find(0);
            x.remember(0);
            oneState(x, name, call);
        });
        Counted empty = new Counted();
        oneState(empty, "findAll without anchors", x -> x.findAll());
        oneState(empty, "play in an empty row", x -> x.play());
    }

    private static void everyChangeDropsTheOldest() {
        everyChange((name, call) -> {
            Counted x = ready();
            for (int k = 1; k <= 4; k++) {
                x.set(4, 10 * k);
            }
            c.holds(name + " returns no error", call.applyAsInt(x) >= 0);
            c.due(name + ": states", x.count(4), 4);
            for (int k = 4; k >= 1; k--) {
                c.due(name + ": undo()", x.undo(), k - 1);
                c.due(name + ": setting", x.count(24), 10 * k);
            }
            c.due(name + ": undo() of a fifth", x.undo(), IMPOSSIBLE);
        });
    }

    /** A full history, with a setting that tells its states from one another. */
    private static Counted fullHistory() {
        Counted x = ready();
        for (int k = 1; k <= 4; k++) {
            x.set(4, 10 * k);
        }
        return x;
    }

    private static void fourAreLeft(String name, Counted x) {
        c.due(name + ": states", x.count(4), 4);
        for (int k = 3; k >= 1; k--) {
            c.due(name + ": undo()", x.undo(), k);
            c.due(name + ": setting", x.count(24), 10 * k);
        }
        c.due(name + ": undo() of the oldest", x.undo(), 0);
        c.due(name + ": setting", x.count(24), 2);
    }

    private static void errorsDropNone() {
        Counted x = fullHistory();
        x.put(0, 100);
        x.take(6);
        x.change(6, 0);
        x.move(0, 7, 0);
        x.anchor(6);
        x.drop(2);
        x.find(2);
        x.remember(2);
        x.set(5, 0);
        x.set(0, 21);
        x.type('-');
        c.due("play() of a fault", x.play(), IMPOSSIBLE);
        fourAreLeft("after errors", x);
    }

    private static void othersAreNoChanges() {
        Counted x = fullHistory();
        c.due("wordAt(0)", x.wordAt(0), 9);
        c.due("anchorOf(0, 0)", x.anchorOf(0, 0), 1);
        c.due("score(0, 2)", x.score(0, 2), 13);
        c.due("anchors(3)", x.anchors(3), 3);
        c.due("blockOf(0, 1)", x.blockOf(0, 1), 101);
        c.due("wouldTake(0, 0)", x.wouldTake(0, 0), 0);
        c.due("safest(0)", x.safest(0), 0);
        c.holds("clearest(0)", x.clearest(0) >= 0);
        c.due("type(45)", x.type('-'), 1);
        c.due("fault(0)", x.fault(0), 0);
        c.due("clearText()", x.clearText(), 1);
        c.due("clearText()", x.clearText(), 0);
        fourAreLeft("after others", x);
    }

    private static void undoIsNoChange() {
        Counted x = Checks.rowOf(1, 2, 3);
        c.due("undo()", x.undo(), 2);
        c.due("undo() does not undo itself", x.undo(), 1);
        c.due("words", x.count(0), 1);
    }

    private static void everythingIsRestored() {
        Counted x = Checks.rowOf(1, 2, 3, 4, 5);
        x.anchor(1);
        x.anchor(3);
        x.set(1, 7);
        String before = Checks.stateView(x.afterAll());
        Checks.typeAll(x, "+0,9;-2;=2,8;>0,2,1;");
        c.due("play()", x.play(), 5);
        x.findAll();
        x.remember(0);
        x.drop(1);
        for (int left = 3; left >= 0; left--) {
            c.due("undo()", x.undo(), left);
        }
        x.clearText();
        c.holds("row, anchors, settings and edits are as they were",
                before.equals(Checks.stateView(x.afterAll())));
    }

    private static void theTextIsNot() {
        Counted x = Checks.rowOf(1, 2);
        Checks.typeAll(x, "-0;");
        x.put(0, 5);
        Checks.typeAll(x, "x");
        c.due("undo()", x.undo(), 2);
        c.due("the text is as long as it was", x.count(5), 4);
        c.due("and is the same", x.fault(0), 3);
        x.play();
        x.clearText();
        x.put(0, 5);
        c.due("undo()", x.undo(), 2);
        c.due("the text is empty", x.count(5), 0);
        Checks.typeAll(x, ";".repeat(60));
        x.undo();
        c.due("the text is full", x.count(5), 60);
    }

    private static void changesAfterUndo() {
        Counted x = Checks.rowOfSize(6);
        for (int k = 0; k < 3; k++) {
            x.undo();
        }
        c.due("one state", x.count(4), 1);
        x.put(0, 50);
        x.put(0, 51);
        x.put(0, 52);
        c.due("four states", x.count(4), 4);
        x.put(0, 53);
        c.due("still four states", x.count(4), 4);
        c.row(x, "53 52 51 50 0 1 2");
        c.due("undo()", x.undo(), 3);
        c.due("undo()", x.undo(), 2);
        c.due("undo()", x.undo(), 1);
        c.due("undo()", x.undo(), 0);
        c.row(x, "0 1 2");
        c.refused(x, "undo() of a dropped state", y -> y.undo(), IMPOSSIBLE);
    }

    private static void undoOfSixAnchors() {
        Counted x = Checks.rowOf(1, 2, 3);
        for (int k = 0; k < 6; k++) {
            x.anchor(k % 3);
        }
        c.due("undo() of the sixth", x.undo(), 3);
        c.due("anchors", x.count(1), 5);
        c.due("a sixth one again", x.anchor(0), 5);
        c.due("undo()", x.undo(), 3);
        x.drop(0);
        x.drop(0);
        c.due("anchors", x.count(1), 3);
        x.undo();
        x.undo();
        c.due("anchors", x.count(1), 5);
        c.due("the last one's place", x.anchorOf(4, 0), 1);
        c.due("no sixth one", x.anchorOf(5, 0), INVALID);
    }

    private static void invalidRatherThanNotPossible() {
        Counted x = Checks.rowOf(1);
        x.anchor(0);
        x.take(0);
        c.refused(x, "find(0)", y -> y.find(0), IMPOSSIBLE);
        c.refused(x, "find(1)", y -> y.find(1), INVALID);
        c.refused(x, "remember(0)", y -> y.remember(0), IMPOSSIBLE);
        c.refused(x, "remember(1)", y -> y.remember(1), INVALID);
    }

    private static void invalidRatherThanLimit() {
        Counted x = Checks.rowOfSize(40);
        for (int k = 0; k < 6; k++) {
            x.anchor(k);
        }
        c.refused(x, "put(0, 0)", y -> y.put(0, 0), LIMIT);
        c.refused(x, "put(41, 0)", y -> y.put(41, 0), INVALID);
        c.refused(x, "put(0, 100)", y -> y.put(0, 100), INVALID);
        c.refused(x, "anchor(39)", y -> y.anchor(39), LIMIT);
        c.refused(x, "anchor(40)", y -> y.anchor(40), INVALID);
        Counted text = new Counted();
        Checks.typeAll(text, ";".repeat(60));
        c.refused(text, "type(32)", y -> y.type(32), LIMIT);
        c.refused(text, "type(31)", y -> y.type(31), INVALID);
        c.refused(text, "type(127)", y -> y.type(127), INVALID);
    }

    private static void invalidRatherThanNotFound() {
        Counted x = Checks.rowOf(1);
        x.anchor(0);
        x.take(0);
        c.refused(x, "wordAt(0)", y -> y.wordAt(0), MISSING);
        c.refused(x, "wordAt(-1)", y -> y.wordAt(-1), INVALID);
        c.refused(x, "anchorOf(0, 8)", y -> y.anchorOf(0, 8), MISSING);
        c.refused(x, "anchorOf(1, 8)", y -> y.anchorOf(1, 8), INVALID);
        c.refused(x, "anchorOf(0, 13)", y -> y.anchorOf(0, 13), INVALID);
        c.refused(x, "blockOf(0, 0)", y -> y.blockOf(0, 0), MISSING);
        c.refused(x, "blockOf(0, 2)", y -> y.blockOf(0, 2), INVALID);
        c.refused(x, "blockOf(9, -1)", y -> y.blockOf(9, -1), INVALID);
        c.refused(x, "safest(0)", y -> y.safest(0), MISSING);
        c.refused(x, "safest(2)", y -> y.safest(2), INVALID);
        c.refused(x, "clearest(0)", y -> y.clearest(0), MISSING);
        c.refused(x, "clearest(2)", y -> y.clearest(2), INVALID);
        c.refused(x, "fault(0)", y -> y.fault(0), MISSING);
        c.refused(x, "fault(2)", y -> y.fault(2), INVALID);
    }

    private static void noAnchorIsInvalid() {
        Counted x = Checks.rowOf(1, 2);
        x.anchor(0);
        x.anchor(1);
        for (int anchor : new int[] {Checks.LOW, -1, 2, 5, 6, Checks.HIGH}) {
            c.refused(x, "drop(" + anchor + ")", y -> y.drop(anchor), INVALID);
            c.refused(x, "find(" + anchor + ")", y -> y.find(anchor), INVALID);
            c.refused(x, "remember(" + anchor + ")", y -> y.remember(anchor), INVALID);
            c.refused(x, "anchorOf(" + anchor + ", 0)", y -> y.anchorOf(anchor, 0), INVALID);
            c.refused(x, "score(" + anchor + ", 0)", y -> y.score(anchor, 0), INVALID);
        }
    }

    private static void theLastOf512Calls() {
        Counted x = new Counted();
        for (int k = 0; k < 255; k++) {
            x.put(0, k % 100);
            x.take(0);
        }
        c.due("call 511: edits", x.count(3), 510);
        c.due("call 512: undo()", x.undo(), 3);
        c.due("calls", x.calls(), 512);
    }
}
