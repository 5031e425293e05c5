/** Anchors at their edges, and promises 6 to 10 and 13 there: each sentence has a case of its own. */
public final class AnchorEdgesTest {
    private static final int LOW = Checks.LOW;
    private static final int HIGH = Checks.HIGH;
    private static final int INVALID = Checks.INVALID;
    private static final int MISSING = Checks.MISSING;

    private static Checks c;

    public static void main(String[] args) {
        c = new Checks("AnchorEdgesTest");
        anchorPlaces();
        anchorInEmptyRow();
        atMostSix();
        sixInEmptyRow();
        thingsInRowOfFive();
        thingsInRowOfOneAndTwo();
        wordZeroIsAWord();
        thingsStayWithEdits();
        dropNumbers();
        dropFirstMiddleLast();
        dropTheOnlyOne();
        trueAfterPut();
        trueAfterTake();
        trueAfterChange();
        trueAfterMove();
        trueFromEndToEnd();
        trueThatWentStaysAway();
        trueAfterTexts();
        findNumbers();
        findAtTheLeastScore();
        findInEmptyRow();
        findWhereItIs();
        findFromEndToEnd();
        findAllOfNone();
        findAllOfSix();
        findAllButLost();
        findAllOfEmptyRow();
        rememberNumbers();
        rememberAtTheRowsEnd();
        rememberNoneToAllFive();
        rememberOfLostOne();
        rememberInEmptyRow();
        anchorOfArguments();
        anchorOfMissing();
        c.end();
    }

    private static void anchorPlaces() {
        Counted x = Checks.rowOf(1, 2, 3);
        for (int place : new int[] {LOW, LOW + 1, -1, 3, 4, 39, 40, HIGH - 1, HIGH}) {
            c.refused(x, "anchor(" + place + ")", y -> y.anchor(place), INVALID);
        }
        c.due("anchor(0)", x.anchor(0), 0);
        c.due("anchor(2)", x.anchor(2), 1);
        c.due("place of 0", x.anchorOf(0, 0), 0);
        c.due("place of 1", x.anchorOf(1, 0), 2);
        Counted full = Checks.rowOfSize(40);
        c.refused(full, "anchor(40) in a full row", y -> y.anchor(40), INVALID);
        c.due("anchor(39) in a full row", full.anchor(39), 0);
        c.due("its place", full.anchorOf(0, 0), 39);
    }

    private static void anchorInEmptyRow() {
        Counted x = new Counted();
        for (int place : new int[] {LOW, -1, 0, 1, HIGH}) {
            c.refused(x, "anchor(" + place + ") in an empty row", y -> y.anchor(place), INVALID);
        }
    }

    private static Counted six() {
        Counted x = Checks.rowOf(10, 11, 12, 13, 14, 15);
        for (int k = 0; k < 6; k++) {
            x.anchor(k);
        }
        return x;
    }

    private static void atMostSix() {
        Counted x = Checks.rowOf(1, 2, 3);
        for (int k = 0; k < 6; k++) {
            c.due("anchor " + k, x.anchor(1), k);
            c.due("anchors", x.count(1), k + 1);
        }
        for (int place : new int[] {0, 1, 2}) {
            c.refused(x, "a seventh: anchor(" + place + ")", y -> y.anchor(place), Checks.LIMIT);
        }
        for (int place : new int[] {LOW, -1, 3, HIGH}) {
            c.refused(x, "a seventh: anchor(" + place + ")", y -> y.anchor(place), INVALID);
        }
        x.drop(2);
        c.due("a sixth one again", x.anchor(2), 5);
        c.due("a seventh one again", x.anchor(2), Checks.LIMIT);
    }

    private static void sixInEmptyRow() {
        Counted x = Checks.rowOf(1);
        for (int k = 0; k < 6; k++) {
            x.anchor(0);
        }
        x.take(0);
        c.refused(x, "anchor(0): no place and no room", y -> y.anchor(0), INVALID);
        c.due("all lost", x.anchors(2), 63);
        c.due("all without a true place", x.anchors(4), 63);
    }

    private static void things(Counted x, int anchor, int... due) {
        for (int k = 0; k < 5; k++) {
            c.due("anchorOf(" + anchor + ", " + (k + 2) + ")", x.anchorOf(anchor, k + 2), due[k]);
        }
    }

    private static void thingsInRowOfFive() {
        Counted x = Checks.rowOf(1, 2, 3, 4, 5);
        for (int k = 0; k < 5; k++) {
            x.anchor(k);
        }
        things(x, 0, MISSING, MISSING, 1, 2, 3);
        things(x, 1, MISSING, 1, 2, 3, 4);
        things(x, 2, 1, 2, 3, 4, 5);
        things(x, 3, 2, 3, 4, 5, MISSING);
        things(x, 4, 3, 4, 5, MISSING, MISSING);
    }

    private static void thingsInRowOfOneAndTwo() {
        Counted one = Checks.rowOf(7);
        one.anchor(0);
        things(one, 0, MISSING, MISSING, 7, MISSING, MISSING);
        Counted two = Checks.rowOf(7, 8);
        two.anchor(0);
        two.anchor(1);
        things(two, 0, MISSING, MISSING, 7, 8, MISSING);
        things(two, 1, MISSING, 7, 8, MISSING, MISSING);
        Counted full = Checks.rowOfSize(40);
        full.anchor(0);
        full.anchor(39);
        things(full, 0, MISSING, MISSING, 0, 1, 2);
        things(full, 1, 37, 38, 39, MISSING, MISSING);
    }

    private static void wordZeroIsAWord() {
        Counted x = Checks.rowOf(0, 0, 0, 0, 0);
        x.anchor(2);
        things(x, 0, 0, 0, 0, 0, 0);
        c.due("at the first place no word is ahead", x.score(0, 0), 10);
        Counted one = Checks.rowOf(0);
        one.anchor(0);
        one.put(0, 0);
        c.due("a word 0 is not no word", one.score(0, 0), 11);
    }

    private static void thingsStayWithEdits() {
        Counted x = Checks.rowOf(1, 2, 3, 4, 5);
        x.anchor(2);
        x.change(0, 9);
        x.change(2, 9);
        x.take(4);
        x.move(0, 2, 2);
        things(x, 0, 1, 2, 3, 4, 5);
        c.due("its place stays", x.anchorOf(0, 0), 2);
        while (x.count(0) > 0) {
            x.take(0);
        }
        things(x, 0, 1, 2, 3, 4, 5);
        c.due("its place stays without any word", x.anchorOf(0, 0), 2);
    }

    private static void dropNumbers() {
        Counted none = Checks.rowOf(1);
        for (int anchor : new int[] {LOW, -1, 0, 1, HIGH}) {
            c.refused(none, "drop(" + anchor + ") of none", y -> y.drop(anchor), INVALID);
        }
        Counted x = six();
        for (int anchor : new int[] {LOW, LOW + 1, -1, 6, 7, HIGH - 1, HIGH}) {
            c.refused(x, "drop(" + anchor + ") of six", y -> y.drop(anchor), INVALID);
        }
        c.due("drop(5)", x.drop(5), 5);
        c.refused(x, "drop(5) of five", y -> y.drop(5), INVALID);
    }

    private static void dropFirstMiddleLast() {
        for (int dropped = 0; dropped < 6; dropped++) {
            Counted x = six();
            x.change(4, 14);
            c.due("drop(" + dropped + ")", x.drop(dropped), 5);
            c.due("anchors", x.count(1), 5);
            for (int k = 0; k < 5; k++) {
                int was = k < dropped ? k : k + 1;
                String name = "dropped " + dropped + ", anchor " + k;
                c.due(name + ": place", x.anchorOf(k, 0), was);
                c.due(name + ": true place", x.anchorOf(k, 1), was == 4 ? MISSING : was);
                c.due(name + ": word", x.anchorOf(k, 4), 10 + was);
                c.due(name + ": word ahead", x.anchorOf(k, 3), was == 0 ? MISSING : 9 + was);
                c.due(name + ": words behind", x.anchorOf(k, 6), was > 3 ? MISSING : 12 + was);
            }
            c.due("no sixth one", x.anchorOf(5, 0), INVALID);
            c.due("the sets' bits, too", x.anchors(4), dropped == 4 ? 0 : dropped < 4 ? 8 : 16);
        }
    }

    private static void dropTheOnlyOne() {
        Counted x = Checks.rowOf(1, 2);
        x.anchor(1);
        c.due("drop(0)", x.drop(0), 0);
        c.refused(x, "drop(0) again", y -> y.drop(0), INVALID);
        c.due("anchor(0)", x.anchor(0), 0);
        c.due("it is a new one", x.anchorOf(0, 0), 0);
    }

    /** The true places of anchors at all words of the row 10 .. 15. */
    private static void trues(String after, Counted x, int... due) {
        for (int k = 0; k < 6; k++) {
            c.due(after + ": true place of " + k, x.anchorOf(k, 1), due[k]);
            c.due(after + ": place of " + k, x.anchorOf(k, 0), k);
        }
    }

    private static void trueAfterPut() {
        Counted first = six();
        first.put(0, 50);
        trues("put(0)", first, 1, 2, 3, 4, 5, 6);
        Counted between = six();
        between.put(3, 50);
        trues("put(3)", between, 0, 1, 2, 4, 5, 6);
        Counted last = six();
        last.put(5, 50);
        trues("put(5)", last, 0, 1, 2, 3, 4, 6);
        Counted behind = six();
        behind.put(6, 50);
        trues("put(6)", behind, 0, 1, 2, 3, 4, 5);
    }

    private static void trueAfterTake() {
        Counted first = six();
        first.take(0);
        trues("take(0)", first, MISSING, 0, 1, 2, 3, 4);
        Counted between = six();
        between.take(3);
        trues("take(3)", between, 0, 1, 2, MISSING, 3, 4);
        Counted last = six();
        last.take(5);
        trues("take(5)", last, 0, 1, 2, 3, 4, MISSING);
    }

    private static void trueAfterChange() {
        Counted first = six();
        first.change(0, 50);
        trues("change(0)", first, MISSING, 1, 2, 3, 4, 5);
        Counted last = six();
        last.change(5, 15);
        trues("change(5) to what it is", last, 0, 1, 2, 3, 4, MISSING);
    }

    private static void trueAfterMove() {
        Counted up = six();
        up.move(1, 2, 3);
        trues("move(1, 2, 3)", up, 0, 3, 4, 1, 2, 5);
        Counted down = six();
        down.move(4, 2, 1);
        trues("move(4, 2, 1)", down, 0, 3, 4, 5, 1, 2);
        Counted toEnd = six();
        toEnd.move(0, 1, 5);
        trues("move(0, 1, 5)", toEnd, 5, 0, 1, 2, 3, 4);
        Counted toStart = six();
        toStart.move(5, 1, 0);
        trues("move(5, 1, 0)", toStart, 1, 2, 3, 4, 5, 0);
        Counted stays = six();
        stays.move(2, 3, 2);
        trues("move(2, 3, 2)", stays, 0, 1, 2, 3, 4, 5);
    }

    private static void trueFromEndToEnd() {
        Counted x = Checks.rowOfSize(40);
        x.anchor(0);
        x.anchor(39);
        x.move(0, 1, 39);
        c.due("from 0 to 39", x.anchorOf(0, 1), 39);
        c.due("from 39 to 38", x.anchorOf(1, 1), 38);
        x.take(0);
        c.due("a word less ahead of it", x.anchorOf(0, 1), 38);
        x.put(0, 50);
        c.due("a word more in a row of 39", x.anchorOf(0, 1), 39);
        x.move(39, 1, 0);
        c.due("from 39 to 0", x.anchorOf(0, 1), 0);
    }

    private static void trueThatWentStaysAway() {
        Counted x = Checks.rowOf(1, 2, 3);
        x.anchor(1);
        x.take(1);
        x.put(1, 2);
        c.due("a word like it", x.anchorOf(0, 1), MISSING);
        c.due("its best place is not its true place", x.anchorOf(0, 12), 0);
        x.put(0, 9);
        x.move(0, 1, 3);
        c.due("after other edits", x.anchorOf(0, 1), MISSING);
        c.due("found anew", x.find(0), 1);
        c.due("finding gives none", x.anchorOf(0, 1), MISSING);
        c.due("remembered anew: one word more behind it", x.remember(0), 1);
        c.due("this gives one", x.anchorOf(0, 1), 1);
    }

    private static void trueAfterTexts() {
        Counted x = Checks.rowOf(1, 2, 3);
        x.anchor(0);
        x.anchor(1);
        x.anchor(2);
        Checks.typeAll(x, ">0,1,2;-0;+0,2;=1,3;");
        c.due("play()", x.play(), 3);
        c.row(x, "2 3 1");
        c.due("of the word that moved", x.anchorOf(0, 1), 2);
        c.due("of the word that went", x.anchorOf(1, 1), MISSING);
        c.due("of the word that was changed", x.anchorOf(2, 1), MISSING);
    }

    private static void findNumbers() {
        Counted none = Checks.rowOf(1);
        for (int anchor : new int[] {LOW, -1, 0, 1, HIGH}) {
            c.refused(none, "find(" + anchor + ") of none", y -> y.find(anchor), INVALID);
        }
        Counted x = six();
        x.set(3, 60);
        for (int anchor : new int[] {LOW, LOW + 1, -1, 6, 7, HIGH - 1, HIGH}) {
            c.refused(x, "find(" + anchor + ") of six lost ones", y -> y.find(anchor), INVALID);
        }
        c.refused(x, "find(0) of a lost one", y -> y.find(0), Checks.IMPOSSIBLE);
        c.refused(x, "find(5) of a lost one", y -> y.find(5), Checks.IMPOSSIBLE);
        x.set(3, 0);
        c.due("find(0)", x.find(0), 0);
        c.due("find(5)", x.find(5), 5);
    }

    private static void findAtTheLeastScore() {
        Counted x = Checks.rowOf(1, 2, 3, 4, 5);
        x.anchor(2);
        x.put(0, 9);
        x.set(3, 14);
        c.due("a score just as great as the least", x.find(0), 3);
        x.undo();
        x.set(3, 15);
        c.refused(x, "a score less by one", y -> y.find(0), Checks.IMPOSSIBLE);
        c.due("its place stays", x.anchorOf(0, 0), 2);
    }

    private static void findInEmptyRow() {
        Counted x = Checks.rowOf(1);
        x.anchor(0);
        x.set(3, 0);
        x.take(0);
        c.refused(x, "find(0) without any word, the least score 0", y -> y.find(0), Checks.IMPOSSIBLE);
        c.refused(x, "find(1) without any word", y -> y.find(1), INVALID);
        x.put(0, 2);
        c.due("find(0) with another word", x.find(0), 0);
    }

    private static void findWhereItIs() {
        Counted x = Checks.rowOf(1, 2);
        x.anchor(1);
        int states = x.count(4);
        c.due("find(0)", x.find(0), 1);
        c.due("is a change", x.count(4), states + 1);
        c.due("no edit", x.count(3), 2);
        c.due("its true place stays", x.anchorOf(0, 1), 1);
    }

    private static void findFromEndToEnd() {
        Counted x = Checks.rowOfSize(40);
        x.anchor(0);
        x.move(0, 1, 39);
        c.due("find(0) from 0", x.find(0), 39);
        c.due("its place", x.anchorOf(0, 0), 39);
        x.move(39, 1, 0);
        c.due("find(0) from 39", x.find(0), 0);
        c.due("its place", x.anchorOf(0, 0), 0);
    }

    private static void findAllOfNone() {
        Counted x = new Counted();
        c.due("findAll()", x.findAll(), 0);
        c.due("is a change", x.count(4), 1);
        c.due("undo()", x.undo(), 0);
    }

    private static void findAllOfSix() {
        Counted x = six();
        x.put(0, 50);
        c.due("findAll() of six that moved", x.findAll(), 6);
        for (int k = 0; k < 6; k++) {
            c.due("place of " + k, x.anchorOf(k, 0), k + 1);
        }
        c.due("findAll() again", x.findAll(), 0);
        x.move(0, 2, 5);
        c.row(x, "11 12 13 14 15 50 10");
        c.due("findAll() of all but none", x.findAll(), 6);
        c.due("place of the one that moved", x.anchorOf(0, 0), 6);
    }

    private static void findAllButLost() {
        Counted x = Checks.rowOf(1, 2, 3, 4, 5, 6);
        x.anchor(0);
        x.anchor(5);
        x.put(0, 9);
        x.change(1, 8);
        x.set(3, 10);
        c.due("one is lost", x.anchors(2), 1);
        c.due("findAll()", x.findAll(), 1);
        c.due("the lost one stays", x.anchorOf(0, 0), 0);
        c.due("the other one does not", x.anchorOf(1, 0), 6);
        x.set(3, 60);
        x.put(0, 9);
        c.due("findAll() if all are lost", x.findAll(), 0);
        c.due("none has gone", x.anchorOf(1, 0), 6);
    }

    private static void findAllOfEmptyRow() {
        Counted x = Checks.rowOf(1, 2);
        x.anchor(1);
        x.set(3, 0);
        x.take(1);
        x.take(0);
        c.due("findAll() without any word", x.findAll(), 0);
        c.due("its place stays", x.anchorOf(0, 0), 1);
        c.due("is a change", x.count(4), 4);
    }

    private static void rememberNumbers() {
        Counted none = Checks.rowOf(1);
        for (int anchor : new int[] {LOW, -1, 0, 1, HIGH}) {
            c.refused(none, "remember(" + anchor + ") of none", y -> y.remember(anchor), INVALID);
        }
        Counted x = six();
        for (int anchor : new int[] {LOW, LOW + 1, -1, 6, 7, HIGH - 1, HIGH}) {
            c.refused(x, "remember(" + anchor + ") of six", y -> y.remember(anchor), INVALID);
        }
        c.due("remember(0)", x.remember(0), 0);
        c.due("remember(5)", x.remember(5), 0);
    }

    private static void rememberAtTheRowsEnd() {
        Counted x = Checks.rowOf(1, 2, 3);
        x.anchor(2);
        c.due("its place is the last one", x.remember(0), 0);
        x.take(0);
        c.refused(x, "its place is just behind the row", y -> y.remember(0), Checks.IMPOSSIBLE);
        x.take(0);
        c.refused(x, "its place is far behind the row", y -> y.remember(0), Checks.IMPOSSIBLE);
        c.refused(x, "an anchor that is none", y -> y.remember(1), INVALID);
        x.put(1, 8);
        x.put(2, 9);
        c.due("its place is the last one again", x.remember(0), 3);
        c.due("two ahead", x.anchorOf(0, 2), 3);
        c.due("its true place", x.anchorOf(0, 1), 2);
        Counted full = Checks.rowOfSize(40);
        full.anchor(39);
        c.due("place 39 of 40", full.remember(0), 0);
        full.take(0);
        c.refused(full, "place 39 of 39", y -> y.remember(0), Checks.IMPOSSIBLE);
    }

    private static void rememberNoneToAllFive() {
        Counted x = Checks.rowOf(1, 2, 3, 4, 5);
        x.anchor(2);
        for (int k = 0; k < 5; k++) {
            c.due("as it is", x.remember(0), 0);
            for (int p = 0; p <= k; p++) {
                x.change(p, 10 * (k + 1));
            }
            c.due(k + 1 + " other ones", x.remember(0), k + 1);
        }
        Counted none = Checks.rowOf(1, 2, 3, 4, 5);
        none.anchor(2);
        none.take(4);
        c.due("a word and no word are other ones", none.remember(0), 1);
        none.take(3);
        c.due("no word is as no word", none.remember(0), 1);
        none.put(3, 4);
        none.put(4, 5);
        c.due("no word and a word are other ones", none.remember(0), 2);
    }

    private static void rememberOfLostOne() {
        Counted x = Checks.rowOf(1, 2);
        x.anchor(0);
        x.change(0, 5);
        x.change(1, 6);
        x.set(3, 60);
        c.due("lost", x.anchorOf(0, 7), 2);
        c.due("remember(0)", x.remember(0), 2);
        c.due("its true place", x.anchorOf(0, 1), 0);
    }

    private static void rememberInEmptyRow() {
        Counted x = Checks.rowOf(1);
        x.anchor(0);
        x.take(0);
        c.refused(x, "remember(0) without any word", y -> y.remember(0), Checks.IMPOSSIBLE);
        c.refused(x, "remember(1) without any word", y -> y.remember(1), INVALID);
        c.refused(x, "remember(-1) without any word", y -> y.remember(-1), INVALID);
    }

    private static void anchorOfArguments() {
        Counted none = Checks.rowOf(1);
        for (int anchor : new int[] {LOW, -1, 0, 1, HIGH}) {
            c.refused(none, "anchorOf(" + anchor + ", 0) of none", y -> y.anchorOf(anchor, 0), INVALID);
        }
        Counted x = six();
        for (int anchor : new int[] {LOW, -1, 6, 7, HIGH}) {
            c.refused(x, "anchorOf(" + anchor + ", 0) of six", y -> y.anchorOf(anchor, 0), INVALID);
        }
        for (int what : new int[] {LOW, -1, 13, 14, HIGH}) {
            c.refused(x, "anchorOf(0, " + what + ")", y -> y.anchorOf(0, what), INVALID);
            c.refused(x, "anchorOf(6, " + what + ")", y -> y.anchorOf(6, what), INVALID);
        }
        c.asked(x, "anchorOf(0, 0)", y -> y.anchorOf(0, 0), 0);
        c.asked(x, "anchorOf(5, 12)", y -> y.anchorOf(5, 12), 1);
    }

    private static void anchorOfMissing() {
        Counted x = Checks.rowOf(1, 2);
        x.anchor(0);
        x.take(1);
        int[] one = {0, 0, MISSING, MISSING, 1, 2, MISSING, 0, 0, 11, MISSING, MISSING, 1};
        for (int what = 0; what < one.length; what++) {
            int asked = what;
            c.asked(x, "one word: anchorOf(0, " + what + ")", y -> y.anchorOf(0, asked), one[what]);
        }
        x.take(0);
        int[] none = {0, MISSING, MISSING, MISSING, 1, 2, MISSING, 2, MISSING, MISSING, MISSING, MISSING, 0};
        for (int what = 0; what < none.length; what++) {
            int asked = what;
            c.asked(x, "no word: anchorOf(0, " + what + ")", y -> y.anchorOf(0, asked), none[what]);
        }
        c.refused(x, "no word: anchorOf(0, 13)", y -> y.anchorOf(0, 13), INVALID);
    }
}
