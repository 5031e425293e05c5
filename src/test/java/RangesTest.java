import java.util.ArrayList;
import java.util.LinkedHashMap;
import java.util.List;
import java.util.Map;
import java.util.function.Consumer;

/**
 * Every call with every argument at, just inside and just outside of each range, and with the
 * smallest and the largest numbers, in states at the edges: each answer against the plain model's.
 */
public final class RangesTest {
    /** One object is asked on until it has made so many calls: a view must have room behind them. */
    private static final int CALLS = 350;
    private static final int LOW = Checks.LOW;
    private static final int HIGH = Checks.HIGH;

    private static final int[] ONE = {LOW, LOW + 1, -1000001, -101, -100, -61, -41, -40, -32, -7, -6, -5, -2, -1,
        0, 1, 2, 3, 4, 5, 6, 7, 11, 12, 13, 14, 18, 19, 20, 21, 22, 23, 24, 25, 26, 31, 32, 33, 37, 38, 39, 40,
        41, 44, 48, 57, 58, 59, 60, 61, 62, 98, 99, 100, 101, 125, 126, 127, 128, 255, 256, 1000001,
        HIGH - 39, HIGH - 1, HIGH};
    private static final int[] TWO = {LOW, LOW + 1, -40, -2, -1, 0, 1, 2, 3, 4, 5, 6, 7, 12, 13, 20, 21, 38, 39,
        40, 41, 59, 60, 61, 98, 99, 100, 101, HIGH - 1, HIGH};
    private static final int[] THREE = {LOW, LOW + 1, -1, 0, 1, 2, 19, 20, 21, 38, 39, 40, 41, HIGH - 40,
        HIGH - 1, HIGH};

    private static Checks c;
    private static Consumer<Face> state;
    private static Counted x;
    private static PlainModel model;

    public static void main(String[] args) {
        c = new Checks("RangesTest");
        for (Map.Entry<String, Consumer<Face>> entry : states().entrySet()) {
            state = entry.getValue();
            anew();
            for (Call call : Call.values()) {
                calls(entry.getKey() + ": ", call);
            }
            same(entry.getKey() + ": at the end");
        }
        c.end();
    }

    private static void anew() {
        x = new Counted();
        model = new PlainModel();
        state.accept(x);
        state.accept(model);
    }

    private static void same(String name) {
        c.holds(name + ": like the plain model", Checks.view(x).equals(Checks.view(model)));
    }

    private static void calls(String name, Call call) {
        int[] none = {0};
        int[] first = call.arguments == 0 ? none : call.arguments == 1 ? ONE : call.arguments == 2 ? TWO : THREE;
        int[] second = call.arguments < 2 ? none : first;
        int[] third = call.arguments < 3 ? none : first;
        for (int a : first) {
            for (int b : second) {
                for (int d : third) {
                    call(name, call, a, b, d);
                }
            }
        }
    }

    private static void call(String name, Call call, int a, int b, int d) {
        int want = call.on(model, a, b, d);
        c.due(name + call.told(a, b, d), call.on(x, a, b, d), want);
        boolean changed = call.changes && want >= 0;
        if (changed || x.calls() >= CALLS) {
            same(name + call.told(a, b, d));
            anew();
        }
    }

    private static Map<String, Consumer<Face>> states() {
        Map<String, Consumer<Face>> states = new LinkedHashMap<>();
        states.put("empty row", y -> row(y, 0));
        states.put("one word", y -> row(y, 1));
        states.put("one word with an anchor", y -> anchors(row(y, 1), 1));
        states.put("two words with six anchors", y -> anchors(row(y, 2), 6));
        states.put("39 words with five anchors", y -> anchors(row(y, 39), 5));
        states.put("full row", y -> row(y, 40));
        states.put("full row with six anchors", y -> anchors(row(y, 40), 6));
        states.put("empty row with six anchors", y -> take(anchors(row(y, 3), 6), 3));
        states.put("three words, anchors behind them", y -> take(anchors(row(y, 9), 6), 6));
        states.put("many moves", RangesTest::moves);
        states.put("no weights", y -> settings(anchors(row(y, 5), 6), 0, 0));
        states.put("greatest settings", y -> settings(anchors(row(y, 5), 6), 20, 60));
        states.put("full text", y -> Checks.typeAll(anchors(row(y, 20), 2), "-0;".repeat(20)));
        states.put("full text with a fault", y -> Checks.typeAll(anchors(row(y, 19), 2), "-0;".repeat(20)));
        states.put("empty history", RangesTest::emptyHistory);
        return states;
    }

    private static Face row(Face y, int size) {
        for (int k = 0; k < size; k++) {
            y.put(k, k % 7);
        }
        return y;
    }

    private static Face anchors(Face y, int many) {
        List<Integer> places = new ArrayList<>(List.of(0, 1));
        for (int k = 0; k < 4; k++) {
            places.add(Math.max(0, y.count(0) - 1 - k));
        }
        for (int k = 0; k < many; k++) {
            y.anchor(Math.min(places.get(k), y.count(0) - 1));
        }
        return y;
    }

    private static Face take(Face y, int many) {
        for (int k = 0; k < many; k++) {
            y.take(0);
        }
        return y;
    }

    private static void moves(Face y) {
        anchors(row(y, 20), 6);
        y.move(0, 3, 17);
        y.move(15, 2, 4);
        y.change(19, 50);
        y.put(9, 60);
        y.put(9, 61);
    }

    private static void settings(Face y, int weight, int other) {
        for (int what = 0; what < 5; what++) {
            y.set(what, what < 3 ? weight : other);
        }
    }

    private static void emptyHistory(Face y) {
        anchors(row(y, 8), 3);
        while (y.count(4) > 0) {
            y.undo();
        }
    }
}
