/** Counts the answers of a test that are not as due, and prints each of them. */
final class Checks {
    static final int INVALID = WordAnchors.INVALID_ARGUMENT;
    static final int IMPOSSIBLE = WordAnchors.NOT_POSSIBLE;
    static final int LIMIT = WordAnchors.LIMIT_REACHED;
    static final int MISSING = WordAnchors.NOT_FOUND;

    private final String test;
    private int made;
    private int wrong;

    Checks(String test) {
        this.test = test;
    }

    void due(String call, long got, long want) {
        made++;
        if (got != want) {
            wrong++;
            System.out.println(test + ": " + call + " answered " + got + ", due is " + want);
        }
    }

    void holds(String what, boolean does) {
        made++;
        if (!does) {
            wrong++;
            System.out.println(test + ": this does not hold: " + what);
        }
    }

    /** Ends the test: with exit code 1 if an answer was not as due. */
    void end() {
        System.out.println(test + ": " + made + " answers, " + wrong + " not as due");
        if (wrong != 0 || made == 0) {
            System.exit(1);
        }
    }

    static WordAnchors rowOf(int... words) {
        WordAnchors made = new WordAnchors();
        for (int k = 0; k < words.length; k++) {
            made.put(k, words[k]);
        }
        return made;
    }

    /** Types every character of a text, and returns what the last call answered. */
    static int typeAll(WordAnchors x, String text) {
        int answer = x.count(5);
        for (int k = 0; k < text.length(); k++) {
            answer = x.type(text.charAt(k));
        }
        return answer;
    }

    static String rowText(WordAnchors x) {
        StringBuilder text = new StringBuilder();
        for (int place = 0; place < x.count(0); place++) {
            text.append(place == 0 ? "" : " ").append(x.wordAt(place));
        }
        return text.toString();
    }

    void row(WordAnchors x, String want) {
        String got = rowText(x);
        holds("the row is [" + want + "], it was [" + got + "]", got.equals(want));
    }

    /** All that can be asked of an object, in one text: two like views are two like objects. */
    static String view(WordAnchors x) {
        return stateView(x) + " states " + x.count(4);
    }

    /** The same without the number of states in the history. */
    static String stateView(WordAnchors x) {
        StringBuilder view = new StringBuilder();
        for (int what = 0; what <= 5; what++) {
            view.append(" k").append(x.anchors(what));
            if (what != 4) {
                view.append(" c").append(x.count(what));
            }
        }
        for (int what = 20; what <= 24; what++) {
            view.append(" s").append(x.count(what));
        }
        view.append(" row ").append(rowText(x));
        for (int anchor = 0; anchor < x.count(1); anchor++) {
            view.append(" anchor");
            for (int what = 0; what <= 12; what++) {
                view.append(' ').append(x.anchorOf(anchor, what));
            }
        }
        view.append(" fault ").append(x.fault(0)).append(' ').append(x.fault(1));
        return view.toString();
    }

    /** Checks a call that must answer with an error and change nothing. */
    void refused(WordAnchors x, String call, java.util.function.IntSupplier made, int want) {
        String before = view(x);
        due(call, made.getAsInt(), want);
        holds(call + " changes nothing", before.equals(view(x)));
    }
}
