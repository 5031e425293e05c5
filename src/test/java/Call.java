/** The kinds of calls: how many arguments each takes, and whether it may change the object. */
enum Call {
    PUT(2, true), TAKE(1, true), CHANGE(2, true), MOVE(3, true),
    ANCHOR(1, true), DROP(1, true), FIND(1, true), FIND_ALL(0, true), REMEMBER(1, true), SET(2, true),
    WORD_AT(1, false), ANCHOR_OF(2, false), SCORE(2, false), ANCHORS(1, false), BLOCK_OF(2, false),
    WOULD_TAKE(2, false), SAFEST(1, false), CLEAREST(1, false), COUNT(1, false), UNDO(0, true),
    TYPE(1, true), CLEAR_TEXT(0, true), FAULT(1, false), PLAY(0, true);

    final int arguments;
    final boolean changes;

    Call(int arguments, boolean changes) {
        this.arguments = arguments;
        this.changes = changes;
    }

    int on(Face x, int a, int b, int c) {
        return switch (this) {
            case PUT -> x.put(a, b);
            case TAKE -> x.take(a);
            case CHANGE -> x.change(a, b);
            case MOVE -> x.move(a, b, c);
            case ANCHOR -> x.anchor(a);
            case DROP -> x.drop(a);
            case FIND -> x.find(a);
            case FIND_ALL -> x.findAll();
            case REMEMBER -> x.remember(a);
            case SET -> x.set(a, b);
            case WORD_AT -> x.wordAt(a);
            case ANCHOR_OF -> x.anchorOf(a, b);
            case SCORE -> x.score(a, b);
            case ANCHORS -> x.anchors(a);
            case BLOCK_OF -> x.blockOf(a, b);
            case WOULD_TAKE -> x.wouldTake(a, b);
            case SAFEST -> x.safest(a);
            case CLEAREST -> x.clearest(a);
            case COUNT -> x.count(a);
            case UNDO -> x.undo();
            case TYPE -> x.type(a);
            case CLEAR_TEXT -> x.clearText();
            case FAULT -> x.fault(a);
            case PLAY -> x.play();
        };
    }

    String told(int a, int b, int c) {
        return switch (arguments) {
            case 0 -> this + "()";
            case 1 -> this + "(" + a + ")";
            case 2 -> this + "(" + a + ", " + b + ")";
            default -> this + "(" + a + ", " + b + ", " + c + ")";
        };
    }
}
