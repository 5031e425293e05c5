/** Promises 17 to 20 at their edges: each sentence has a case of its own. */
public final class WouldBeEdgesTest {
    private static final int LOW = Checks.LOW;
    private static final int HIGH = Checks.HIGH;
    private static final int INVALID = Checks.INVALID;
    private static final int MISSING = Checks.MISSING;

    private static Checks c;

    public static void main(String[] args) {
        c = new Checks("WouldBeEdgesTest");
        wouldTakePlaces();
        wouldTakeWhat();
        wouldTakeOfEmptyRow();
        wouldTakeOfOneWord();
        wouldTakeWithoutAnchors();
        wouldTakeAtTheLeastScore();
        wouldTakeIsWhatTakeDoes();
        safestWhat();
        safestOfEmptyRow();
        safestOfOneWord();
        safestWithoutAnchors();
        safestIsTheLast();
        safestIsTheLowest();
        safestOfSixLost();
        clearestWhat();
        clearestOfEmptyRow();
        clearestOfOneWord();
        clearestOfTwoWords();
        clearestIsTheLast();
        clearestIsTheLowest();
        clearestWithSixAnchors();
        clearestWithoutWeights();
        countWhat();
        countOfNone();
        countOfAll();
        countUnlike();
        countEdits();
        c.end();
    }

    private static Counted six() {
        Counted x = Checks.rowOf(10, 11, 12, 13, 14, 15);
        for (int k = 0; k < 6; k++) {
            x.anchor(k);
        }
        return x;
    }

    private static void wouldTakePlaces() {
        Counted x = six();
        x.set(3, 14);
        for (int place : new int[] {LOW, LOW + 1, -1, 6, 7, 39, 40, HIGH - 1, HIGH}) {
            c.refused(x, "wouldTake(" + place + ", 0)", y -> y.wouldTake(place, 0), INVALID);
            c.refused(x, "wouldTake(" + place + ", 1)", y -> y.wouldTake(place, 1), INVALID);
        }
        c.asked(x, "wouldTake(0, 0)", y -> y.wouldTake(0, 0), 7);
        c.asked(x, "wouldTake(5, 0)", y -> y.wouldTake(5, 0), 56);
        Counted full = Checks.rowOfSize(40);
        full.anchor(39);
        full.set(3, 10);
        c.asked(full, "wouldTake(39, 0) of a full row", y -> y.wouldTake(39, 0), 1);
        c.asked(full, "wouldTake(0, 1) of a full row", y -> y.wouldTake(0, 1), 1);
        c.refused(full, "wouldTake(40, 0) of a full row", y -> y.wouldTake(40, 0), INVALID);
    }

    private static void wouldTakeWhat() {
        Counted x = six();
        for (int what : new int[] {LOW, LOW + 1, -1, 2, 3, HIGH - 1, HIGH}) {
            c.refused(x, "wouldTake(0, " + what + ")", y -> y.wouldTake(0, what), INVALID);
            c.refused(x, "wouldTake(6, " + what + ")", y -> y.wouldTake(6, what), INVALID);
        }
    }

    private static void wouldTakeOfEmptyRow() {
        Counted x = Checks.rowOf(1);
        x.anchor(0);
        x.take(0);
        for (int place : new int[] {LOW, -1, 0, 1, HIGH}) {
            c.refused(x, "wouldTake(" + place + ", 0) of an empty row", y -> y.wouldTake(place, 0), INVALID);
        }
    }

    private static void wouldTakeOfOneWord() {
        Counted x = Checks.rowOf(1);
        for (int k = 0; k < 6; k++) {
            x.anchor(0);
        }
        x.set(3, 0);
        c.due("none is lost", x.anchors(2), 0);
        c.asked(x, "wouldTake(0, 0): all would be lost", y -> y.wouldTake(0, 0), 63);
        c.asked(x, "wouldTake(0, 1): none would be found truly", y -> y.wouldTake(0, 1), 0);
        c.refused(x, "wouldTake(1, 0)", y -> y.wouldTake(1, 0), INVALID);
    }

    private static void wouldTakeWithoutAnchors() {
        Counted x = Checks.rowOf(1, 2);
        c.asked(x, "wouldTake(0, 0) without anchors", y -> y.wouldTake(0, 0), 0);
        c.asked(x, "wouldTake(1, 1) without anchors", y -> y.wouldTake(1, 1), 0);
    }

    private static void wouldTakeAtTheLeastScore() {
        Counted x = Checks.rowOf(1, 2, 3, 4, 5);
        x.anchor(2);
        x.set(3, 13);
        c.asked(x, "just the least score without a word two places ahead", y -> y.wouldTake(0, 0), 0);
        x.set(3, 14);
        c.asked(x, "one below it", y -> y.wouldTake(0, 0), 1);
        c.asked(x, "and found truly, though lost", y -> y.wouldTake(0, 1), 1);
        c.asked(x, "without its own word", y -> y.wouldTake(2, 0), 1);
        c.asked(x, "it has no true place then", y -> y.wouldTake(2, 1), 0);
    }

    private static void wouldTakeIsWhatTakeDoes() {
        for (int least = 0; least <= 14; least += 7) {
            Counted x = Checks.rowOf(5, 6, 5, 6, 5, 6, 7);
            x.anchor(0);
            x.anchor(2);
            x.anchor(6);
            x.anchor(3);
            x.take(0);
            x.change(4, 6);
            x.anchor(1);
            x.set(3, least);
            for (int place = 0; place < 6; place++) {
                int lost = x.wouldTake(place, 0);
                int truly = x.wouldTake(place, 1);
                Counted like = x.afterChanges();
                like.take(place);
                c.due("least " + least + ": wouldTake(" + place + ", 0)", lost, like.anchors(2));
                c.due("least " + least + ": wouldTake(" + place + ", 1)", truly, like.anchors(3));
            }
        }
    }

    private static void safestWhat() {
        Counted x = six();
        for (int what : new int[] {LOW, LOW + 1, -1, 2, 3, HIGH - 1, HIGH}) {
            c.refused(x, "safest(" + what + ")", y -> y.safest(what), INVALID);
        }
    }

    private static void safestOfEmptyRow() {
        Counted x = Checks.rowOf(1);
        x.anchor(0);
        x.take(0);
        c.refused(x, "safest(0) of an empty row", y -> y.safest(0), MISSING);
        c.refused(x, "safest(1) of an empty row", y -> y.safest(1), MISSING);
        c.refused(x, "safest(2) of an empty row", y -> y.safest(2), INVALID);
        c.refused(x, "safest(-1) of an empty row", y -> y.safest(-1), INVALID);
    }

    private static void safest(String name, Counted x, int place, int lost) {
        c.asked(x, name + ": safest(0)", y -> y.safest(0), place);
        c.asked(x, name + ": safest(1)", y -> y.safest(1), lost);
    }

    private static void safestOfOneWord() {
        Counted x = Checks.rowOf(1);
        safest("one word, no anchor", x, 0, 0);
        x.anchor(0);
        safest("one word, one anchor", x, 0, 1);
    }

    private static void safestWithoutAnchors() {
        safest("a full row without anchors", Checks.rowOfSize(40), 0, 0);
    }

    private static void safestIsTheLast() {
        Counted x = Checks.rowOf(1, 2, 3, 4);
        x.anchor(0);
        x.set(3, 14);
        safest("all words but the last one are near it", x, 3, 0);
        x.anchor(3);
        safest("of several the lowest", x, 0, 1);
    }

    private static void safestIsTheLowest() {
        Counted x = Checks.rowOfSize(40);
        x.anchor(0);
        x.set(3, 14);
        safest("all from 3 on", x, 3, 0);
        x.anchor(39);
        safest("all from 3 to 36", x, 3, 0);
    }

    private static void safestOfSixLost() {
        Counted x = six();
        x.set(3, 60);
        safest("all are lost as it is", x, 0, 6);
        x.drop(0);
        safest("five are", x, 0, 5);
    }

    private static void clearestWhat() {
        Counted x = six();
        for (int what : new int[] {LOW, LOW + 1, -1, 2, 3, HIGH - 1, HIGH}) {
            c.refused(x, "clearest(" + what + ")", y -> y.clearest(what), INVALID);
        }
    }

    private static void clearestOfEmptyRow() {
        Counted x = new Counted();
        c.refused(x, "clearest(0) of an empty row", y -> y.clearest(0), MISSING);
        c.refused(x, "clearest(1) of an empty row", y -> y.clearest(1), MISSING);
        c.refused(x, "clearest(2) of an empty row", y -> y.clearest(2), INVALID);
        c.refused(x, "clearest(-1) of an empty row", y -> y.clearest(-1), INVALID);
    }

    private static void clearest(String name, Counted x, int place, int difference) {
        c.asked(x, name + ": clearest(0)", y -> y.clearest(0), place);
        c.asked(x, name + ": clearest(1)", y -> y.clearest(1), difference);
    }

    private static void clearestOfOneWord() {
        Counted x = Checks.rowOf(0);
        clearest("one word", x, 0, 14);
        for (int what = 0; what <= 2; what++) {
            x.set(what, 20);
        }
        clearest("one word, the greatest weights", x, 0, 100);
        for (int what = 0; what <= 2; what++) {
            x.set(what, 0);
        }
        clearest("one word, no weights", x, 0, 0);
    }

    private static void clearestOfTwoWords() {
        clearest("two like words", Checks.rowOf(7, 7), 0, 6);
        clearest("two unlike words", Checks.rowOf(7, 8), 0, 12);
    }

    private static void clearestIsTheLast() {
        Counted x = new Counted();
        for (int k = 0; k < 40; k++) {
            x.put(k, k < 39 ? 7 : 8);
        }
        clearest("39 like words and another one", x, 39, 9);
    }

    private static void clearestIsTheLowest() {
        Counted x = new Counted();
        for (int k = 0; k < 40; k++) {
            x.put(k, 7);
        }
        clearest("40 like words", x, 0, 3);
    }

    private static void clearestWithSixAnchors() {
        Counted x = Checks.rowOf(7, 7, 8, 7, 7);
        clearest("no anchor", x, 2, 10);
        for (int k = 0; k < 6; k++) {
            x.anchor(k % 5);
        }
        clearest("six anchors", x, 2, 10);
        x.set(3, 60);
        x.set(4, 60);
        clearest("whatever the least score and the leeway are", x, 2, 10);
    }

    private static void clearestWithoutWeights() {
        Counted x = Checks.rowOf(1, 2, 3);
        for (int what = 0; what <= 2; what++) {
            x.set(what, 0);
        }
        clearest("no weights", x, 0, 0);
    }

    private static void countWhat() {
        Counted x = six();
        for (int what : new int[] {LOW, LOW + 1, -1, 6, 7, 19, 25, 26, HIGH - 1, HIGH}) {
            c.refused(x, "count(" + what + ")", y -> y.count(what), INVALID);
        }
        c.asked(x, "count(0)", y -> y.count(0), 6);
        c.asked(x, "count(5)", y -> y.count(5), 0);
        c.asked(x, "count(20)", y -> y.count(20), 6);
        c.asked(x, "count(24)", y -> y.count(24), 2);
    }

    private static void countOfNone() {
        Counted x = new Counted();
        for (int what = 0; what <= 5; what++) {
            int asked = what;
            c.asked(x, "count(" + what + ") of a new object", y -> y.count(asked), 0);
        }
    }

    private static void countOfAll() {
        Counted x = Checks.rowOfSize(40);
        for (int k = 0; k < 6; k++) {
            x.anchor(k);
        }
        Checks.typeAll(x, ";".repeat(60));
        int[] due = {40, 6, 40, 40, 4, 60};
        for (int what = 0; what < due.length; what++) {
            int asked = what;
            c.asked(x, "count(" + what + ") of all", y -> y.count(asked), due[what]);
        }
    }

    private static void countUnlike() {
        Counted x = new Counted();
        for (int k = 0; k < 40; k++) {
            x.put(k, k % 2 == 0 ? 0 : 99);
        }
        c.due("two unlike words of 40", x.count(2), 2);
        for (int k = 1; k < 40; k += 2) {
            x.change(k, 0);
        }
        c.due("one of 40", x.count(2), 1);
        x.change(39, 1);
        c.due("the last one is another", x.count(2), 2);
        x.take(39);
        c.due("it has gone", x.count(2), 1);
    }

    private static void countEdits() {
        Counted x = Checks.rowOf(1, 2, 3);
        x.take(0);
        x.change(0, 2);
        x.move(0, 1, 0);
        c.due("put, take, change and move", x.count(3), 6);
        x.put(3, 1);
        x.take(2);
        x.change(2, 1);
        x.move(0, 3, 0);
        c.due("those that return an error are none", x.count(3), 6);
        x.play();
        c.due("a text without edits has none", x.count(3), 6);
        Checks.typeAll(x, "-0;+0,1;=0,2;>0,1,0;");
        x.play();
        c.due("four edits of a text", x.count(3), 10);
        x.play();
        c.due("and once more", x.count(3), 14);
        x.type(';');
        x.play();
        c.due("a text with a fault does none", x.count(3), 14);
        x.undo();
        c.due("undone with what they did", x.count(3), 10);
    }
}
