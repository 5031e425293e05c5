import java.util.ArrayList;
import java.util.List;

/**
 * An object of the class that knows its calls: it allows no more than the document promises
 * anything for, and a second object can be brought to the same state by them.
 */
final class Counted implements Face {
    private static final int MOST_CALLS = 512;

    private record Made(Call call, int a, int b, int c) {
    }

    private final WordAnchors x = new WordAnchors();
    private final List<Made> log = new ArrayList<>();

    int calls() {
        return log.size();
    }

    /** A new object, after those of these calls that may change one. */
    Counted afterChanges() {
        return replayed(false);
    }

    /** A new object, after all of these calls. */
    Counted afterAll() {
        return replayed(true);
    }

    private Counted replayed(boolean all) {
        Counted again = new Counted();
        for (Made made : log) {
            if (all || made.call.changes) {
                made.call.on(again, made.a, made.b, made.c);
            }
        }
        return again;
    }

    /** Counts a call ahead of it. */
    private void enter(Call call, int a, int b, int c) {
        if (log.size() >= MOST_CALLS) {
            throw new IllegalStateException("a test makes more than 512 calls on one object");
        }
        log.add(new Made(call, a, b, c));
    }

    @Override
    public int put(int place, int word) {
        enter(Call.PUT, place, word, 0);
        return x.put(place, word);
    }

    @Override
    public int take(int place) {
        enter(Call.TAKE, place, 0, 0);
        return x.take(place);
    }

    @Override
    public int change(int place, int word) {
        enter(Call.CHANGE, place, word, 0);
        return x.change(place, word);
    }

    @Override
    public int move(int from, int many, int to) {
        enter(Call.MOVE, from, many, to);
        return x.move(from, many, to);
    }

    @Override
    public int anchor(int place) {
        enter(Call.ANCHOR, place, 0, 0);
        return x.anchor(place);
    }

    @Override
    public int drop(int anchor) {
        enter(Call.DROP, anchor, 0, 0);
        return x.drop(anchor);
    }

    @Override
    public int find(int anchor) {
        enter(Call.FIND, anchor, 0, 0);
        return x.find(anchor);
    }

    @Override
    public int findAll() {
        enter(Call.FIND_ALL, 0, 0, 0);
        return x.findAll();
    }

    @Override
    public int remember(int anchor) {
        enter(Call.REMEMBER, anchor, 0, 0);
        return x.remember(anchor);
    }

    @Override
    public int set(int what, int value) {
        enter(Call.SET, what, value, 0);
        return x.set(what, value);
    }

    @Override
    public int wordAt(int place) {
        enter(Call.WORD_AT, place, 0, 0);
        return x.wordAt(place);
    }

    @Override
    public int anchorOf(int anchor, int what) {
        enter(Call.ANCHOR_OF, anchor, what, 0);
        return x.anchorOf(anchor, what);
    }

    @Override
    public int score(int anchor, int place) {
        enter(Call.SCORE, anchor, place, 0);
        return x.score(anchor, place);
    }

    @Override
    public int anchors(int what) {
        enter(Call.ANCHORS, what, 0, 0);
        return x.anchors(what);
    }

    @Override
    public int blockOf(int index, int what) {
        enter(Call.BLOCK_OF, index, what, 0);
        return x.blockOf(index, what);
    }

    @Override
    public int wouldTake(int place, int what) {
        enter(Call.WOULD_TAKE, place, what, 0);
        return x.wouldTake(place, what);
    }

    @Override
    public int safest(int what) {
        enter(Call.SAFEST, what, 0, 0);
        return x.safest(what);
    }

    @Override
    public int clearest(int what) {
        enter(Call.CLEAREST, what, 0, 0);
        return x.clearest(what);
    }

    @Override
    public int count(int what) {
        enter(Call.COUNT, what, 0, 0);
        return x.count(what);
    }

    @Override
    public int undo() {
        enter(Call.UNDO, 0, 0, 0);
        return x.undo();
    }

    @Override
    public int type(int character) {
        enter(Call.TYPE, character, 0, 0);
        return x.type(character);
    }

    @Override
    public int clearText() {
        enter(Call.CLEAR_TEXT, 0, 0, 0);
        return x.clearText();
    }

    @Override
    public int fault(int what) {
        enter(Call.FAULT, what, 0, 0);
        return x.fault(what);
    }

    @Override
    public int play() {
        enter(Call.PLAY, 0, 0, 0);
        return x.play();
    }
}
