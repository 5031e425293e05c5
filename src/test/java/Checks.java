import java.util.function.ToIntFunction;

/** Counts the answers of a test that are not as due, and prints each of them. */
final class Checks {
    static final int INVALID = WordAnchors.INVALID_ARGUMENT;
    static final int IMPOSSIBLE = WordAnchors.NOT_POSSIBLE;
    static final int LIMIT = WordAnchors.LIMIT_REACHED;
    static final int MISSING = WordAnchors.NOT_FOUND;
    static final int LOW = Integer.MIN_VALUE;
    static final int HIGH = Integer.MAX_VALUE;

    private final String test;
    private int made;
    private int wrong;

    Checks(String test) {
        this.test = test;
    }

    void due(String call, long got, long want) {
        made++;
        if (got != want) {
            wrong++;
            System.out.println(test + ": " + call + " answered " + got + ", due is " + want);
        }
    }

    void holds(String what, boolean does) {
        made++;
        if (!does) {
            wrong++;
            System.out.println(test + ": this does not hold: " + what);
        }
    }

    /** Ends the test: with exit code 1 if an answer was not as due. */
    void end() {
        System.out.println(test + ": " + made + " answers, " + wrong + " not as due");
        if (wrong != 0 || made == 0) {
            System.exit(1);
        }
    }

    static Counted rowOf(int... words) {
        Counted made = new Counted();
        for (int k = 0; k < words.length; k++) {
            made.put(k, words[k]);
        }
        return made;
    }

    /** A row of so many words: 0, 1, 2 and so on. */
    static Counted rowOfSize(int size) {
        Counted made = new Counted();
        for (int k = 0; k < size; k++) {
            made.put(k, k);
        }
        return made;
    }

    /** Types every character of a text, and returns what the last call answered. */
    static int typeAll(Face x, String text) {
        int answer = x.count(5);
        for (int k = 0; k < text.length(); k++) {
            answer = x.type(text.charAt(k));
        }
        return answer;
    }

    static String rowText(Face x) {
        StringBuilder text = new StringBuilder();
        int words = x.count(0);
        for (int place = 0; place < words; place++) {
            text.append(place == 0 ? "" : " ").append(x.wordAt(place));
        }
        return text.toString();
    }

    void row(Face x, String want) {
        String got = rowText(x);
        holds("the row is [" + want + "], it was [" + got + "]", got.equals(want));
    }

    /** All that can be asked of an object, in one text: two like views are two like objects. */
    static String view(Face x) {
        return stateView(x) + " states " + x.count(4);
    }

    /** The same without the number of states in the history. */
    static String stateView(Face x) {
        StringBuilder view = new StringBuilder();
        for (int what = 0; what <= 5; what++) {
            view.append(" k").append(x.anchors(what));
            if (what != 4) {
                view.append(" c").append(x.count(what));
            }
        }
        for (int what = 20; what <= 24; what++) {
            view.append(" s").append(x.count(what));
        }
        view.append(" row ").append(rowText(x));
        int anchors = x.count(1);
        for (int anchor = 0; anchor < anchors; anchor++) {
            view.append(" anchor");
            for (int what = 0; what <= 12; what++) {
                view.append(' ').append(x.anchorOf(anchor, what));
            }
        }
        view.append(" fault ").append(x.fault(0)).append(' ').append(x.fault(1));
        return view.toString();
    }

    /** The view of an object and those of all states of its history, each of an object like it. */
    static String wholeView(Counted x) {
        StringBuilder views = new StringBuilder();
        int states = x.afterAll().count(4);
        for (int back = 0; back <= states; back++) {
            Counted like = x.afterAll();
            for (int k = 0; k < back; k++) {
                like.undo();
            }
            views.append(view(like)).append('\n');
        }
        return views.toString();
    }

    /** Checks a call that must answer so and change nothing; it is made on an object like this. */
    void asked(Counted x, String call, ToIntFunction<Face> made, int want) {
        Counted like = x.afterChanges();
        due(call, made.applyAsInt(like), want);
        boolean same = wholeView(like).equals(wholeView(x.afterChanges()));
        holds(call + " changes nothing", same);
    }

    /** Checks a call that must answer with an error, and so change nothing. */
    void refused(Counted x, String call, ToIntFunction<Face> made, int want) {
        holds(want + " is an error", want >= MISSING && want <= INVALID);
        asked(x, call, made, want);
    }
}
