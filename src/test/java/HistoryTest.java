import java.util.function.ToIntFunction;

/** Promise 21 and the history: which calls are changes, and what undo restores. */
public final class HistoryTest {
    public static void main(String[] args) {
        Checks c = new Checks("HistoryTest");
        atMostFour(c);
        everyChange(c);
        textStays(c);
        dropped(c);
        c.end();
    }

    private static void atMostFour(Checks c) {
        Counted x = new Counted();
        c.due("undo() of nothing", x.undo(), Checks.IMPOSSIBLE);
        for (int k = 0; k < 11; k++) {
            x.put(k, k);
            c.due("states", x.count(4), Math.min(k + 1, 4));
        }
        for (int left = 3; left >= 0; left--) {
            c.due("undo()", x.undo(), left);
            c.due("states", x.count(4), left);
            c.due("words", x.count(0), 7 + left);
            c.due("edits", x.count(3), 7 + left);
        }
        c.refused(x, "undo() of a fifth", y -> y.undo(), Checks.IMPOSSIBLE);
        x.put(0, 50);
        x.put(0, 51);
        c.due("undo()", x.undo(), 1);
        x.put(0, 52);
        c.due("states", x.count(4), 2);
        c.due("undo()", x.undo(), 1);
        c.due("wordAt(0)", x.wordAt(0), 50);
        c.due("undo()", x.undo(), 0);
        c.row(x, "0 1 2 3 4 5 6");
    }

    /** An object in which every kind of change can do something, with an empty history. */
    private static Counted ready() {
        Counted x = Checks.rowOf(1, 2, 3, 4, 5);
        x.anchor(1);
        x.anchor(3);
        x.set(4, 1);
        x.put(0, 9);
        x.change(5, 50);
        for (int k = 0; k < 4; k++) {
            x.put(0, 60);
        }
        for (int k = 0; k < 4; k++) {
            x.undo();
        }
        Checks.typeAll(x, "-0;+1,7;=1,8;");
        return x;
    }

    private static void everyChange(Checks c) {
        change(c, "put", x -> x.put(2, 70), 1);
        change(c, "take", x -> x.take(1), 1);
        change(c, "change", x -> x.change(1, 2), 1);
        change(c, "move", x -> x.move(0, 2, 1), 1);
        change(c, "move to where it is", x -> x.move(0, 2, 0), 1);
        change(c, "anchor", x -> x.anchor(0), 0);
        change(c, "drop", x -> x.drop(0), 0);
        change(c, "find", x -> x.find(0), 0);
        change(c, "findAll", x -> x.findAll(), 0);
        change(c, "remember", x -> x.remember(0), 0);
        change(c, "set", x -> x.set(0, 20), 0);
        change(c, "play", x -> x.play(), 3);
    }

    private static void change(Checks c, String name, ToIntFunction<Face> call, int edits) {
        Counted x = ready();
        String before = Checks.view(x);
        int editsBefore = x.count(3);
        c.due(name + ": states before", x.count(4), 0);
        c.holds(name + " returns no error", call.applyAsInt(x) >= 0);
        c.due(name + ": one state", x.count(4), 1);
        c.due(name + ": edits", x.count(3) - editsBefore, edits);
        x.set(3, 33);
        x.undo();
        c.due(name + ": undo()", x.undo(), 0);
        c.holds(name + " is undone whole", before.equals(Checks.view(x)));
    }

    private static void textStays(Checks c) {
        Counted x = Checks.rowOf(1);
        x.type('-');
        x.put(0, 2);
        x.type('0');
        x.type(';');
        c.due("type is no change", x.count(4), 2);
        c.due("undo()", x.undo(), 1);
        c.due("the text is as it was", x.count(5), 3);
        x.put(0, 3);
        x.clearText();
        c.due("clearText is no change", x.count(4), 2);
        c.due("undo()", x.undo(), 1);
        c.due("the text is empty still", x.count(5), 0);
        x.anchor(0);
        Checks.typeAll(x, "-0;");
        String before = Checks.view(x);
        x.wordAt(0);
        x.anchorOf(0, 8);
        x.score(0, 0);
        x.blockOf(0, 0);
        x.wouldTake(0, 0);
        x.safest(0);
        x.clearest(0);
        x.fault(0);
        c.holds("asking is no change", before.equals(Checks.view(x)));
    }

    /** A state that is restored is not touched by what came between. */
    private static void dropped(Checks c) {
        Counted x = Checks.rowOf(1, 2, 3, 4);
        x.anchor(0);
        x.anchor(1);
        x.anchor(2);
        String before = Checks.stateView(x);
        x.drop(0);
        x.drop(0);
        x.anchor(3);
        x.put(0, 5);
        for (int left = 3; left >= 0; left--) {
            c.due("undo()", x.undo(), left);
        }
        c.holds("three anchors as they were", before.equals(Checks.stateView(x)));
    }
}
