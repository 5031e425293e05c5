import java.util.ArrayList;
import java.util.List;
import java.util.Set;
import java.util.TreeSet;

/** Runs of 512 calls on one object, each answer against that of the plain model. */
public final class LongRunsTest {
    private static final int CALLS = 512;
    private static final int RUNS = 600;
    private static final String[] NAMES = {"put", "take", "change", "move", "anchor", "drop", "find",
        "findAll", "remember", "set", "wordAt", "anchorOf", "score", "anchors", "blockOf", "wouldTake",
        "safest", "clearest", "count", "undo", "type", "clearText", "fault", "play"};
    private static final int TYPE = 20;
    private static final int CLEAR_TEXT = 21;
    private static final int FAULT = 22;
    private static final int PLAY = 23;
    /** Which calls are made how often: all by their numbers in NAMES. */
    private static final int[] MIX = {0, 0, 0, 0, 1, 1, 2, 2, 3, 3, 3, 4, 4, 4, 5, 6, 7, 8, 8, 9, 10, 11, 11,
        11, 11, 11, 12, 12, 13, 13, 14, 14, 14, 15, 15, 15, 16, 16, 17, 17, 18, 18, 19, 19, TYPE, TYPE, PLAY};
    private static final int[] FAR = {Integer.MIN_VALUE, Integer.MAX_VALUE, -1, 127, 40, 41, 100, 6, 13, -40};

    /** Every call, and every error that the document names for one: all must come up in the runs. */
    private static final String[] KINDS = {
        "put", "put -1000001", "put -1000003", "take", "take -1000001", "change", "change -1000001",
        "move", "move -1000001", "anchor", "anchor -1000001", "anchor -1000003", "drop", "drop -1000001",
        "find", "find -1000001", "find -1000002", "findAll", "remember", "remember -1000001",
        "remember -1000002", "set", "set -1000001", "wordAt", "wordAt -1000001", "wordAt -1000004",
        "anchorOf", "anchorOf -1000001", "anchorOf -1000004", "score", "score -1000001", "anchors",
        "anchors -1000001", "blockOf", "blockOf -1000001", "blockOf -1000004", "wouldTake",
        "wouldTake -1000001", "safest", "safest -1000001", "safest -1000004", "clearest",
        "clearest -1000001", "clearest -1000004", "count", "count -1000001", "undo", "undo -1000002",
        "type", "type -1000001", "type -1000003", "clearText", "fault", "fault -1000001",
        "fault -1000004", "play", "play -1000002"};
    private static final Set<String> SEEN = new TreeSet<>();

    private long seed;
    private int words;
    private WordAnchors x;
    private PlainModel model;
    private Checks checks;
    private List<String> calls;
    private boolean same;

    public static void main(String[] args) {
        Checks c = new Checks("LongRunsTest");
        for (int run = 0; run < RUNS; run++) {
            LongRunsTest test = new LongRunsTest();
            test.checks = c;
            test.seed = run * 7919L + 1;
            test.run();
        }
        for (String kind : KINDS) {
            c.holds("there was an answer of the kind " + kind, SEEN.contains(kind));
        }
        c.due("kinds of answers", SEEN.size(), KINDS.length);
        c.end();
    }

    /** A number from 0 to below a bound; the same ones in every run of the test. */
    private int below(int bound) {
        seed = seed * 6364136223846793005L + 1442695040888963407L;
        return (int) ((seed >>> 33) % bound);
    }

    private void run() {
        x = new WordAnchors();
        model = new PlainModel();
        calls = new ArrayList<>();
        same = true;
        words = new int[] {2, 3, 5, 12, 100}[below(5)];
        int least = below(3) * 12;
        while (calls.size() < CALLS && same) {
            if (model.count(0) < least && below(3) > 0) {
                call(0, place() + below(2), below(words), 0);
            } else {
                step();
            }
        }
    }

    /** A place of the row mostly, and sometimes far from it. */
    private int place() {
        return below(40) == 0 ? FAR[below(FAR.length)] : below(Math.max(1, model.count(0)));
    }

    private int mark() {
        return below(40) == 0 ? FAR[below(FAR.length)] : below(Math.max(1, model.count(1)));
    }

    private int upTo(int greatest) {
        return below(40) == 0 ? FAR[below(FAR.length)] : below(greatest + 1);
    }

    private void step() {
        int which = MIX[below(MIX.length)];
        if (which == TYPE) {
            typeEdit();
        } else {
            call(which, first(which), second(which), third());
        }
    }

    private int first(int which) {
        return switch (NAMES[which]) {
            case "put" -> place() + below(2);
            case "take", "change", "move", "anchor", "wordAt", "wouldTake" -> place();
            case "drop", "find", "remember", "anchorOf", "score" -> mark();
            case "anchors" -> upTo(5);
            case "set" -> upTo(4);
            case "blockOf" -> upTo(2);
            case "count" -> below(3) == 0 ? 20 + upTo(4) : upTo(5);
            default -> upTo(1);
        };
    }

    private int second(int which) {
        return switch (NAMES[which]) {
            case "put", "change" -> below(30) == 0 ? FAR[below(FAR.length)] : below(words);
            case "move" -> 1 + upTo(Math.max(0, model.count(0) / 2));
            case "anchorOf" -> upTo(12);
            case "score" -> place();
            case "set" -> below(2) == 0 ? upTo(60) : upTo(15);
            default -> upTo(1);
        };
    }

    private int third() {
        return upTo(model.count(0) / 2);
    }

    /** An edit as a text, mostly of the form and possible, character by character. */
    private void typeEdit() {
        if (below(4) == 0) {
            call(CLEAR_TEXT, 0, 0, 0);
        }
        int size = model.count(0);
        int from = below(Math.max(1, size));
        StringBuilder edit = new StringBuilder();
        switch (below(4)) {
            case 0 -> edit.append('+').append(below(size + 1)).append(',').append(below(words));
            case 1 -> edit.append('-').append(from);
            case 2 -> edit.append('=').append(from).append(',').append(below(words));
            default -> edit.append('>').append(from).append(',')
                    .append(below(15) == 0 ? 0 : 1 + below(Math.max(1, size - from)))
                    .append(',').append(below(size / 2 + 1));
        }
        edit.append(';');
        if (below(12) == 0) {
            edit.setCharAt(below(edit.length()), (char) (32 + below(95)));
        }
        for (int k = 0; k < edit.length(); k++) {
            call(TYPE, below(200) == 0 ? FAR[below(4)] : edit.charAt(k), 0, 0);
        }
        call(FAULT, upTo(1), 0, 0);
        call(PLAY, 0, 0, 0);
    }

    private void call(int which, int a, int b, int c) {
        if (calls.size() >= CALLS || !same) {
            return;
        }
        String call = NAMES[which] + "(" + a + ", " + b + ", " + c + ")";
        calls.add(call);
        int got = answer(which, a, b, c);
        int want = due(which, a, b, c);
        SEEN.add(NAMES[which] + (want >= 0 ? "" : " " + want));
        checks.due(call, got, want);
        if (got != want) {
            same = false;
            System.out.println("after these calls: " + calls);
        }
    }

    private int answer(int which, int a, int b, int c) {
        return switch (which) {
            case 0 -> x.put(a, b);
            case 1 -> x.take(a);
            case 2 -> x.change(a, b);
            case 3 -> x.move(a, b, c);
            case 4 -> x.anchor(a);
            case 5 -> x.drop(a);
            case 6 -> x.find(a);
            case 7 -> x.findAll();
            case 8 -> x.remember(a);
            case 9 -> x.set(a, b);
            case 10 -> x.wordAt(a);
            case 11 -> x.anchorOf(a, b);
            case 12 -> x.score(a, b);
            case 13 -> x.anchors(a);
            case 14 -> x.blockOf(a, b);
            case 15 -> x.wouldTake(a, b);
            case 16 -> x.safest(a);
            case 17 -> x.clearest(a);
            case 18 -> x.count(a);
            case 19 -> x.undo();
            case 20 -> x.type(a);
            case 21 -> x.clearText();
            case 22 -> x.fault(a);
            default -> x.play();
        };
    }

    private int due(int which, int a, int b, int c) {
        return switch (which) {
            case 0 -> model.put(a, b);
            case 1 -> model.take(a);
            case 2 -> model.change(a, b);
            case 3 -> model.move(a, b, c);
            case 4 -> model.anchor(a);
            case 5 -> model.drop(a);
            case 6 -> model.find(a);
            case 7 -> model.findAll();
            case 8 -> model.remember(a);
            case 9 -> model.set(a, b);
            case 10 -> model.wordAt(a);
            case 11 -> model.anchorOf(a, b);
            case 12 -> model.score(a, b);
            case 13 -> model.anchors(a);
            case 14 -> model.blockOf(a, b);
            case 15 -> model.wouldTake(a, b);
            case 16 -> model.safest(a);
            case 17 -> model.clearest(a);
            case 18 -> model.count(a);
            case 19 -> model.undo();
            case 20 -> model.type(a);
            case 21 -> model.clearText();
            case 22 -> model.fault(a);
            default -> model.play();
        };
    }
}
