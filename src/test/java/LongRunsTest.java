import java.util.ArrayList;
import java.util.List;
import java.util.Set;
import java.util.TreeSet;

/** Runs of 512 calls on one object, each answer against that of the plain model. */
public final class LongRunsTest {
    private static final int CALLS = 512;
    private static final int RUNS = 600;
    /** Which calls are made how often. */
    private static final Call[] MIX = {Call.PUT, Call.PUT, Call.PUT, Call.PUT, Call.TAKE, Call.TAKE,
        Call.CHANGE, Call.CHANGE, Call.MOVE, Call.MOVE, Call.MOVE, Call.ANCHOR, Call.ANCHOR, Call.ANCHOR,
        Call.DROP, Call.FIND, Call.FIND_ALL, Call.REMEMBER, Call.REMEMBER, Call.SET, Call.WORD_AT,
        Call.ANCHOR_OF, Call.ANCHOR_OF, Call.ANCHOR_OF, Call.ANCHOR_OF, Call.ANCHOR_OF, Call.SCORE,
        Call.SCORE, Call.ANCHORS, Call.ANCHORS, Call.BLOCK_OF, Call.BLOCK_OF, Call.BLOCK_OF,
        Call.WOULD_TAKE, Call.WOULD_TAKE, Call.WOULD_TAKE, Call.SAFEST, Call.SAFEST, Call.CLEAREST,
        Call.CLEAREST, Call.COUNT, Call.COUNT, Call.UNDO, Call.UNDO, Call.TYPE, Call.TYPE, Call.PLAY};
    private static final int[] FAR = {Integer.MIN_VALUE, Integer.MAX_VALUE, -1, 127, 40, 41, 100, 6, 13, -40};

    /** Every call, and every error that the document names for one: all must come up in the runs. */
    private static final String[] KINDS = {
        "PUT", "PUT -1000001", "PUT -1000003", "TAKE", "TAKE -1000001", "CHANGE", "CHANGE -1000001",
        "MOVE", "MOVE -1000001", "ANCHOR", "ANCHOR -1000001", "ANCHOR -1000003", "DROP", "DROP -1000001",
        "FIND", "FIND -1000001", "FIND -1000002", "FIND_ALL", "REMEMBER", "REMEMBER -1000001",
        "REMEMBER -1000002", "SET", "SET -1000001", "WORD_AT", "WORD_AT -1000001", "WORD_AT -1000004",
        "ANCHOR_OF", "ANCHOR_OF -1000001", "ANCHOR_OF -1000004", "SCORE", "SCORE -1000001", "ANCHORS",
        "ANCHORS -1000001", "BLOCK_OF", "BLOCK_OF -1000001", "BLOCK_OF -1000004", "WOULD_TAKE",
        "WOULD_TAKE -1000001", "SAFEST", "SAFEST -1000001", "SAFEST -1000004", "CLEAREST",
        "CLEAREST -1000001", "CLEAREST -1000004", "COUNT", "COUNT -1000001", "UNDO", "UNDO -1000002",
        "TYPE", "TYPE -1000001", "TYPE -1000003", "CLEAR_TEXT", "FAULT", "FAULT -1000001",
        "FAULT -1000004", "PLAY", "PLAY -1000002"};
    private static final Set<String> SEEN = new TreeSet<>();

    private long seed;
    private int words;
    private Counted x;
    private PlainModel model;
    private Checks checks;
    private List<String> calls;
    private boolean same;

    public static void main(String[] args) {
        Checks c = new Checks("LongRunsTest");
        for (int run = 0; run < RUNS; run++) {
            LongRunsTest test = new LongRunsTest();
            test.checks = c;
            test.seed = run * 7919L + 1;
            test.run();
        }
        for (String kind : KINDS) {
            c.holds("there was an answer of the kind " + kind, SEEN.contains(kind));
        }
        c.due("kinds of answers", SEEN.size(), KINDS.length);
        c.end();
    }

    /** A number from 0 to below a bound; the same ones in every run of the test. */
    private int below(int bound) {
        seed = seed * 6364136223846793005L + 1442695040888963407L;
        return (int) ((seed >>> 33) % bound);
    }

    private void run() {
        x = new Counted();
        model = new PlainModel();
        calls = new ArrayList<>();
        same = true;
        words = new int[] {2, 3, 5, 12, 100}[below(5)];
        int least = below(3) * 12;
        while (calls.size() < CALLS && same) {
            if (model.count(0) < least && below(3) > 0) {
                call(Call.PUT, place() + below(2), below(words), 0);
            } else {
                step();
            }
        }
    }

    /** A place of the row mostly, and sometimes far from it. */
    private int place() {
        return below(40) == 0 ? FAR[below(FAR.length)] : below(Math.max(1, model.count(0)));
    }

    private int mark() {
        return below(40) == 0 ? FAR[below(FAR.length)] : below(Math.max(1, model.count(1)));
    }

    private int upTo(int greatest) {
        return below(40) == 0 ? FAR[below(FAR.length)] : below(greatest + 1);
    }

    private void step() {
        Call which = MIX[below(MIX.length)];
        if (which == Call.TYPE) {
            typeEdit();
        } else {
            call(which, first(which), second(which), third());
        }
    }

    private int first(Call which) {
        return switch (which) {
            case PUT -> place() + below(2);
            case TAKE, CHANGE, MOVE, ANCHOR, WORD_AT, WOULD_TAKE -> place();
            case DROP, FIND, REMEMBER, ANCHOR_OF, SCORE -> mark();
            case ANCHORS -> upTo(5);
            case SET -> upTo(4);
            case BLOCK_OF -> upTo(2);
            case COUNT -> below(3) == 0 ? 20 + upTo(4) : upTo(5);
            default -> upTo(1);
        };
    }

    private int second(Call which) {
        return switch (which) {
            case PUT, CHANGE -> below(30) == 0 ? FAR[below(FAR.length)] : below(words);
            case MOVE -> 1 + upTo(Math.max(0, model.count(0) / 2));
            case ANCHOR_OF -> upTo(12);
            case SCORE -> place();
            case SET -> below(2) == 0 ? upTo(60) : upTo(15);
            default -> upTo(1);
        };
    }

    private int third() {
        return upTo(model.count(0) / 2);
    }

    /** An edit as a text, mostly of the form and possible, character by character. */
    private void typeEdit() {
        if (below(4) == 0) {
            call(Call.CLEAR_TEXT, 0, 0, 0);
        }
        int size = model.count(0);
        int from = below(Math.max(1, size));
        StringBuilder edit = new StringBuilder();
        switch (below(4)) {
            case 0 -> edit.append('+').append(below(size + 1)).append(',').append(below(words));
            case 1 -> edit.append('-').append(from);
            case 2 -> edit.append('=').append(from).append(',').append(below(words));
            default -> edit.append('>').append(from).append(',')
                    .append(below(15) == 0 ? 0 : 1 + below(Math.max(1, size - from)))
                    .append(',').append(below(size / 2 + 1));
        }
        edit.append(';');
        if (below(12) == 0) {
            edit.setCharAt(below(edit.length()), (char) (32 + below(95)));
        }
        for (int k = 0; k < edit.length(); k++) {
            call(Call.TYPE, below(200) == 0 ? FAR[below(4)] : edit.charAt(k), 0, 0);
        }
        call(Call.FAULT, upTo(1), 0, 0);
        call(Call.PLAY, 0, 0, 0);
    }

    private void call(Call which, int a, int b, int c) {
        if (calls.size() >= CALLS || !same) {
            return;
        }
        String call = which.told(a, b, c);
        calls.add(call);
        int got = which.on(x, a, b, c);
        int want = which.on(model, a, b, c);
        SEEN.add(which + (want >= 0 ? "" : " " + want));
        checks.due(call, got, want);
        if (got != want) {
            same = false;
            System.out.println("after these calls: " + calls);
        }
    }
}
