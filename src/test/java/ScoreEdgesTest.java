/** Scores and settings at their edges, and promises 11 and 13 to 16 there. */
public final class ScoreEdgesTest {
    private static final int LOW = Checks.LOW;
    private static final int HIGH = Checks.HIGH;
    private static final int INVALID = Checks.INVALID;
    private static final int MISSING = Checks.MISSING;

    private static Checks c;

    public static void main(String[] args) {
        c = new Checks("ScoreEdgesTest");
        firstSettings();
        settingsInAndOut();
        settingNumbers();
        setToWhatItIs();
        leastAndGreatestScore();
        noWordIsOutsideOfTheRow();
        eachThingHasItsWeight();
        scorePlaces();
        scoreAnchors();
        scoreInEmptyRow();
        tieOfAllPlaces();
        tieWithPlaceBehindTheRow();
        greaterScoreFarAway();
        tieAroundItsPlace();
        nextBestIsNearItsPlace();
        lostInEmptyRow();
        lostBelowTheLeastScore();
        leastScoreZero();
        leastScoreSixty();
        leewayZero();
        leewaySixty();
        leewayBelowZeroScores();
        oneWordIsNeverDoubtful();
        anchorsOfNone();
        anchorsOfSix();
        anchorsWhat();
        truePlaceOfLostOnes();
        blockArguments();
        blockOfOneWithShiftsToTheEnds();
        blocksOfSix();
        oneAnchorMoreComesFirst();
        sixBlocks();
        shiftZeroIsNoBlock();
        blocksAtTheLeastScore();
        blocksOfNone();
        c.end();
    }

    private static Counted weights(Counted x, int word, int one, int two) {
        x.set(0, word);
        x.set(1, one);
        x.set(2, two);
        return x;
    }

    private static void firstSettings() {
        Counted x = new Counted();
        int[] first = {6, 3, 1, 5, 2};
        for (int k = 0; k < first.length; k++) {
            c.due("setting " + k + " at first", x.count(20 + k), first[k]);
        }
        c.due("score with them", weightOfRowOfFive(6, 3, 1), 14);
    }

    private static int weightOfRowOfFive(int word, int one, int two) {
        Counted x = weights(Checks.rowOf(1, 2, 3, 4, 5), word, one, two);
        x.anchor(2);
        return x.score(0, 2);
    }

    private static void settingsInAndOut() {
        int[] greatest = {20, 20, 20, 60, 60};
        for (int k = 0; k < greatest.length; k++) {
            int what = k;
            int most = greatest[k];
            Counted x = new Counted();
            int before = x.count(20 + k);
            for (int value : new int[] {LOW, LOW + 1, -1, most + 1, HIGH - 1, HIGH}) {
                c.refused(x, "set(" + what + ", " + value + ")", y -> y.set(what, value), INVALID);
            }
            c.due("set(" + what + ", 0)", x.set(what, 0), before);
            c.due("its value", x.count(20 + what), 0);
            c.due("set(" + what + ", " + most + ")", x.set(what, most), 0);
            c.due("its value", x.count(20 + what), most);
            c.refused(x, "set(" + what + ", " + (most + 1) + ")", y -> y.set(what, most + 1), INVALID);
        }
    }

    private static void settingNumbers() {
        Counted x = new Counted();
        for (int what : new int[] {LOW, LOW + 1, -1, 5, 6, 20, 24, HIGH - 1, HIGH}) {
            c.refused(x, "set(" + what + ", 0)", y -> y.set(what, 0), INVALID);
            c.refused(x, "set(" + what + ", 61)", y -> y.set(what, 61), INVALID);
        }
    }

    private static void setToWhatItIs() {
        Counted x = new Counted();
        c.due("set(0, 6)", x.set(0, 6), 6);
        c.due("set(4, 2)", x.set(4, 2), 2);
        c.due("are changes", x.count(4), 2);
        c.due("no edits", x.count(3), 0);
    }

    private static void leastAndGreatestScore() {
        c.due("greatest weights", weightOfRowOfFive(20, 20, 20), 100);
        c.due("least weights", weightOfRowOfFive(0, 0, 0), 0);
        Counted one = weights(Checks.rowOf(5), 20, 20, 20);
        one.anchor(0);
        c.due("one word, and none around it", one.score(0, 0), 100);
        Counted x = Checks.rowOf(1, 2, 3, 4, 5);
        x.anchor(2);
        c.due("nothing is there just so", x.score(0, 0), 0);
        c.due("nor there", x.score(0, 4), 0);
    }

    private static void noWordIsOutsideOfTheRow() {
        Counted x = Checks.rowOf(1, 2, 3);
        x.anchor(0);
        x.anchor(2);
        int[] first = {14, 1, 0};
        int[] last = {0, 1, 14};
        for (int place = 0; place < 3; place++) {
            c.due("score(0, " + place + ")", x.score(0, place), first[place]);
            c.due("score(1, " + place + ")", x.score(1, place), last[place]);
        }
        x.put(0, 8);
        c.due("a word where none was", x.score(0, 1), 11);
        x.put(0, 9);
        c.due("two words where none were", x.score(0, 2), 10);
    }

    private static void eachThingHasItsWeight() {
        int[] due = {19, 17, 11, 17, 19};
        for (int place = 0; place < 5; place++) {
            Counted x = weights(Checks.rowOf(1, 2, 3, 4, 5), 9, 3, 1);
            x.set(1, 3);
            x.anchor(2);
            c.due("all", x.score(0, 2), 17);
            x.set(0, 10);
            x.set(1, 4);
            x.set(2, 2);
            c.due("all with others", x.score(0, 2), 22);
            x.change(place, 50);
            c.due("without the word at " + place, x.score(0, 2), new int[] {20, 18, 12, 18, 20}[place]);
            x.set(0, 9);
            c.due("and less for the word", x.score(0, 2), place == 2 ? 12 : due[place]);
        }
    }

    private static void scorePlaces() {
        Counted x = Checks.rowOf(1, 2, 3);
        x.anchor(1);
        for (int place : new int[] {LOW, LOW + 1, -1, 3, 4, 39, 40, HIGH - 1, HIGH}) {
            c.refused(x, "score(0, " + place + ")", y -> y.score(0, place), INVALID);
        }
        c.asked(x, "score(0, 0)", y -> y.score(0, 0), 1);
        c.asked(x, "score(0, 2)", y -> y.score(0, 2), 1);
        Counted full = Checks.rowOfSize(40);
        full.anchor(39);
        c.asked(full, "score(0, 39)", y -> y.score(0, 39), 14);
        c.refused(full, "score(0, 40)", y -> y.score(0, 40), INVALID);
    }

    private static void scoreAnchors() {
        Counted none = Checks.rowOf(1);
        for (int anchor : new int[] {LOW, -1, 0, 1, HIGH}) {
            c.refused(none, "score(" + anchor + ", 0) of none", y -> y.score(anchor, 0), INVALID);
        }
        Counted x = Checks.rowOf(1, 2);
        for (int k = 0; k < 6; k++) {
            x.anchor(1);
        }
        for (int anchor : new int[] {LOW, -1, 6, 7, HIGH}) {
            c.refused(x, "score(" + anchor + ", 0) of six", y -> y.score(anchor, 0), INVALID);
            c.refused(x, "score(" + anchor + ", 2) of six", y -> y.score(anchor, 2), INVALID);
        }
        c.asked(x, "score(0, 1)", y -> y.score(0, 1), 14);
        c.asked(x, "score(5, 1)", y -> y.score(5, 1), 14);
    }

    private static void scoreInEmptyRow() {
        Counted x = Checks.rowOf(1);
        x.anchor(0);
        x.take(0);
        for (int place : new int[] {LOW, -1, 0, 1, HIGH}) {
            c.refused(x, "score(0, " + place + ") in an empty row", y -> y.score(0, place), INVALID);
        }
    }

    private static void best(String name, Counted x, int best, int next) {
        c.due(name + ": best place", x.anchorOf(0, 8), best);
        c.due(name + ": next best place", x.anchorOf(0, 10), next);
    }

    private static void tieOfAllPlaces() {
        int[] next = {1, 0, 1, 2, 3};
        for (int place = 0; place < 5; place++) {
            Counted x = weights(Checks.rowOf(1, 2, 3, 4, 5), 0, 0, 0);
            x.anchor(place);
            best("its place is " + place, x, place, next[place]);
            c.due("score", x.anchorOf(0, 9), 0);
            c.due("next score", x.anchorOf(0, 11), 0);
        }
        Counted full = weights(Checks.rowOfSize(40), 0, 0, 0);
        full.anchor(39);
        best("its place is 39", full, 39, 38);
        full.anchor(0);
        c.due("its place is 0: best place", full.anchorOf(1, 8), 0);
        c.due("its place is 0: next best place", full.anchorOf(1, 10), 1);
    }

    private static void tieWithPlaceBehindTheRow() {
        Counted x = weights(Checks.rowOfSize(40), 0, 0, 0);
        x.anchor(39);
        for (int left = 39; left >= 1; left--) {
            x.take(0);
            best(left + " words", x, left - 1, left == 1 ? MISSING : left - 2);
        }
    }

    private static void greaterScoreFarAway() {
        Counted x = weights(Checks.rowOfSize(40), 1, 0, 0);
        x.anchor(0);
        x.change(0, 50);
        x.change(39, 0);
        best("a score greater by 1, 39 places away", x, 39, 0);
        x.change(1, 0);
        best("as great and nearer", x, 1, 39);
    }

    private static void tieAroundItsPlace() {
        Counted x = weights(Checks.rowOf(1, 2, 3, 4, 5), 6, 0, 0);
        x.anchor(2);
        x.change(1, 3);
        x.change(3, 3);
        best("its place first", x, 2, 1);
        x.change(2, 9);
        best("then of two as near the lower one", x, 1, 3);
        x.change(1, 9);
        x.change(0, 3);
        best("then the nearest one, though it is not the lowest", x, 3, 0);
        x.change(3, 9);
        x.change(4, 3);
        best("two ahead and two behind", x, 0, 4);
    }

    private static void nextBestIsNearItsPlace() {
        Counted x = weights(Checks.rowOf(5, 5, 9, 9, 9, 5), 2, 0, 1);
        x.anchor(0);
        x.set(2, 0);
        x.move(0, 1, 5);
        x.change(0, 9);
        c.row(x, "9 9 9 9 5 5");
        best("nearest to its place, not to its best one", x, 4, 5);
        x.change(5, 9);
        best("all others are alike", x, 4, 0);
    }

    private static void standing(String name, Counted x, int due) {
        c.due(name, x.anchorOf(0, 7), due);
        for (int what = 0; what <= 2; what++) {
            c.due(name + ": anchors(" + what + ")", x.anchors(what), what == due ? 1 : 0);
        }
    }

    private static void lostInEmptyRow() {
        Counted x = weights(Checks.rowOf(1), 0, 0, 0);
        x.anchor(0);
        x.set(3, 0);
        standing("one word, no weights, no least score", x, 0);
        x.take(0);
        standing("an empty row", x, 2);
    }

    private static void lostBelowTheLeastScore() {
        Counted x = Checks.rowOf(1, 2, 3, 4, 5);
        x.anchor(2);
        x.set(3, 14);
        standing("just the least score", x, 0);
        x.set(3, 15);
        standing("one below it", x, 2);
        x.set(3, 14);
        x.change(0, 9);
        standing("a word two places away has gone", x, 2);
        x.set(3, 13);
        standing("and the least score is less by one", x, 0);
    }

    private static void leastScoreZero() {
        Counted x = Checks.rowOf(1, 2, 3, 4, 5);
        x.anchor(2);
        for (int k = 0; k < 5; k++) {
            x.change(k, 50 + k);
        }
        c.due("its greatest score", x.anchorOf(0, 9), 0);
        x.set(3, 1);
        standing("the least score 1", x, 2);
        x.set(3, 0);
        standing("the least score 0", x, 1);
    }

    private static void leastScoreSixty() {
        Counted x = weights(Checks.rowOf(1, 2, 3, 4, 5), 20, 20, 0);
        x.anchor(2);
        x.set(3, 60);
        standing("a score of 60", x, 0);
        x.set(0, 19);
        standing("a score of 59", x, 2);
        x.set(2, 1);
        standing("a score of 61", x, 0);
    }

    private static void leewayZero() {
        Counted like = Checks.rowOf(7, 7, 7, 7, 7, 7);
        like.anchor(2);
        like.set(4, 0);
        standing("two of the same score", like, 1);
        Counted x = Checks.rowOf(7, 7, 7, 7, 7);
        x.anchor(2);
        x.set(4, 0);
        c.due("best score", x.anchorOf(0, 9), 14);
        c.due("next best score", x.anchorOf(0, 11), 13);
        standing("less by one, the leeway 0", x, 0);
        x.set(4, 1);
        standing("less by one, the leeway 1", x, 1);
    }

    private static void leewaySixty() {
        Counted x = weights(Checks.rowOf(1, 2, 3, 4, 5, 60, 61, 62, 4, 63), 19, 1, 20);
        x.anchor(2);
        x.set(4, 60);
        c.due("best score", x.anchorOf(0, 9), 61);
        c.due("next best score", x.anchorOf(0, 11), 1);
        standing("less by 60", x, 1);
        x.set(4, 59);
        standing("less by 60, the leeway 59", x, 0);
        x.set(4, 60);
        x.set(0, 20);
        standing("less by 61", x, 0);
    }

    private static void leewayBelowZeroScores() {
        Counted x = Checks.rowOf(1, 2, 3, 4, 5);
        x.anchor(2);
        c.due("next best score", x.anchorOf(0, 11), 0);
        x.set(4, 13);
        standing("a score of 0, the leeway 13 of 14", x, 0);
        x.set(4, 14);
        standing("the leeway 14 of 14", x, 1);
        x.set(4, 15);
        standing("the leeway is more than the score", x, 1);
    }

    private static void oneWordIsNeverDoubtful() {
        Counted x = Checks.rowOf(1, 2);
        x.anchor(0);
        x.set(4, 60);
        standing("two words", x, 1);
        x.take(1);
        standing("one word", x, 0);
    }

    private static void anchorsOfNone() {
        Counted empty = new Counted();
        Counted full = Checks.rowOfSize(40);
        for (int what = 0; what <= 5; what++) {
            int asked = what;
            c.asked(empty, "anchors(" + what + ") of none", y -> y.anchors(asked), 0);
            c.asked(full, "anchors(" + what + ") of none in a full row", y -> y.anchors(asked), 0);
        }
    }

    private static Counted six() {
        Counted x = Checks.rowOf(10, 11, 12, 13, 14, 15);
        for (int k = 0; k < 6; k++) {
            x.anchor(k);
        }
        return x;
    }

    private static void kinds(String name, Counted x, int... due) {
        for (int what = 0; what <= 5; what++) {
            int asked = what;
            c.asked(x, name + ": anchors(" + what + ")", y -> y.anchors(asked), due[what]);
        }
    }

    private static void anchorsOfSix() {
        Counted x = six();
        kinds("six", x, 63, 0, 0, 63, 0, 0);
        x.set(4, 60);
        kinds("six doubtful ones", x, 0, 63, 0, 63, 0, 0);
        x.set(3, 60);
        kinds("six lost ones", x, 0, 0, 63, 63, 0, 63);
        x.change(5, 15);
        x.change(0, 10);
        kinds("two without a true place", x, 0, 0, 63, 30, 33, 30);
        for (int k = 0; k < 6; k++) {
            x.take(0);
        }
        kinds("six in an empty row", x, 0, 0, 63, 0, 63, 0);
    }

    private static void anchorsWhat() {
        Counted x = six();
        for (int what : new int[] {LOW, LOW + 1, -1, 6, 7, HIGH - 1, HIGH}) {
            c.refused(x, "anchors(" + what + ")", y -> y.anchors(what), INVALID);
        }
    }

    private static void truePlaceOfLostOnes() {
        Counted x = Checks.rowOf(1, 2, 3, 4);
        x.anchor(3);
        x.change(2, 9);
        x.change(1, 9);
        x.move(3, 1, 0);
        x.set(3, 7);
        c.row(x, "4 1 9 9");
        c.due("its greatest score", x.anchorOf(0, 9), 6);
        kinds("lost, but its best place is its true place", x, 0, 0, 1, 1, 0, 1);
        x.change(0, 4);
        kinds("lost, and without a true place", x, 0, 0, 1, 0, 1, 0);
    }

    private static void blockArguments() {
        Counted x = six();
        x.put(0, 50);
        for (int index : new int[] {LOW, LOW + 1, -1}) {
            c.refused(x, "blockOf(" + index + ", 0)", y -> y.blockOf(index, 0), INVALID);
            c.refused(x, "blockOf(" + index + ", 1)", y -> y.blockOf(index, 1), INVALID);
        }
        for (int what : new int[] {LOW, LOW + 1, -1, 2, 3, HIGH - 1, HIGH}) {
            c.refused(x, "blockOf(0, " + what + ")", y -> y.blockOf(0, what), INVALID);
            c.refused(x, "blockOf(1, " + what + ")", y -> y.blockOf(1, what), INVALID);
        }
        for (int index : new int[] {1, 2, 5, 6, HIGH - 1, HIGH}) {
            c.refused(x, "blockOf(" + index + ", 0)", y -> y.blockOf(index, 0), MISSING);
            c.refused(x, "blockOf(" + index + ", 1)", y -> y.blockOf(index, 1), MISSING);
        }
        c.asked(x, "blockOf(0, 0)", y -> y.blockOf(0, 0), 63);
        c.asked(x, "blockOf(0, 1)", y -> y.blockOf(0, 1), 101);
    }

    private static void blockOfOneWithShiftsToTheEnds() {
        Counted x = weights(Checks.rowOfSize(40), 6, 0, 0);
        x.anchor(0);
        x.anchor(39);
        x.move(0, 1, 39);
        x.move(38, 1, 0);
        c.asked(x, "the least shift", y -> y.blockOf(0, 1), 61);
        c.asked(x, "its anchor", y -> y.blockOf(0, 0), 2);
        c.asked(x, "the greatest shift", y -> y.blockOf(1, 1), 139);
        c.asked(x, "its anchor", y -> y.blockOf(1, 0), 1);
        c.refused(x, "no third block", y -> y.blockOf(2, 0), MISSING);
    }

    private static void blocksOfSix() {
        Counted x = weights(six(), 6, 0, 0);
        x.move(5, 1, 0);
        c.asked(x, "five that made room", y -> y.blockOf(0, 0), 31);
        c.asked(x, "their shift", y -> y.blockOf(0, 1), 101);
        c.asked(x, "the one, though its shift is less", y -> y.blockOf(1, 0), 32);
        c.asked(x, "its shift", y -> y.blockOf(1, 1), 95);
        c.refused(x, "no third block", y -> y.blockOf(2, 1), MISSING);
    }

    private static void oneAnchorMoreComesFirst() {
        Counted x = weights(six(), 6, 0, 0);
        x.move(2, 1, 0);
        c.row(x, "12 10 11 13 14 15");
        c.asked(x, "two anchors", y -> y.blockOf(0, 0), 3);
        c.asked(x, "their shift", y -> y.blockOf(0, 1), 101);
        c.asked(x, "one anchor, though its shift is less", y -> y.blockOf(1, 0), 4);
        c.asked(x, "its shift", y -> y.blockOf(1, 1), 98);
        Counted other = weights(six(), 6, 0, 0);
        other.move(0, 1, 2);
        c.asked(other, "two anchors with the least shift", y -> y.blockOf(0, 0), 6);
        c.asked(other, "one anchor", y -> y.blockOf(1, 0), 1);
    }

    private static void sixBlocks() {
        Counted x = weights(six(), 6, 0, 0);
        for (int to = 0; to < 5; to++) {
            x.move(5, 1, to);
        }
        c.row(x, "15 14 13 12 11 10");
        for (int k = 0; k < 6; k++) {
            int index = k;
            c.asked(x, "block " + k, y -> y.blockOf(index, 0), 32 >> k);
            c.asked(x, "shift of block " + k, y -> y.blockOf(index, 1), 95 + 2 * k);
        }
        c.refused(x, "no seventh block", y -> y.blockOf(6, 0), MISSING);
    }

    private static void shiftZeroIsNoBlock() {
        Counted x = weights(six(), 6, 0, 0);
        x.move(4, 2, 0);
        x.move(2, 2, 4);
        c.row(x, "14 15 12 13 10 11");
        c.asked(x, "of two with two anchors the least shift", y -> y.blockOf(0, 1), 96);
        c.asked(x, "its anchors", y -> y.blockOf(0, 0), 48);
        c.asked(x, "the other shift", y -> y.blockOf(1, 1), 104);
        c.asked(x, "its anchors", y -> y.blockOf(1, 0), 3);
        c.refused(x, "those that did not move", y -> y.blockOf(2, 0), MISSING);
    }

    private static void blocksAtTheLeastScore() {
        Counted x = weights(six(), 6, 0, 0);
        x.put(0, 50);
        x.set(3, 6);
        c.due("just the least score", x.blockOf(0, 0), 63);
        x.set(3, 7);
        c.refused(x, "lost ones are in no block", y -> y.blockOf(0, 0), MISSING);
        x.set(3, 6);
        x.change(1, 51);
        c.due("without the lost one", x.blockOf(0, 0), 62);
    }

    private static void blocksOfNone() {
        Counted x = new Counted();
        c.refused(x, "blockOf(0, 0) without anchors", y -> y.blockOf(0, 0), MISSING);
        c.refused(x, "blockOf(0, 1) without anchors", y -> y.blockOf(0, 1), MISSING);
        c.refused(x, "blockOf(-1, 0) without anchors", y -> y.blockOf(-1, 0), INVALID);
        c.refused(x, "blockOf(0, 2) without anchors", y -> y.blockOf(0, 2), INVALID);
        Counted gone = Checks.rowOf(1);
        gone.anchor(0);
        gone.set(3, 0);
        gone.take(0);
        c.refused(gone, "blockOf(0, 0) of an empty row", y -> y.blockOf(0, 0), MISSING);
    }
}
