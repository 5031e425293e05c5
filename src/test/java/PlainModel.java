import java.util.ArrayDeque;
import java.util.ArrayList;
import java.util.Comparator;
import java.util.List;
import java.util.TreeMap;
import java.util.regex.Matcher;
import java.util.regex.Pattern;

/**
 * The document's words once more, written another way than the class: words are objects, so that
 * a true place is wherever its word's object is, and forms of texts are patterns.
 */
final class PlainModel implements Face {
    private static final int INVALID = -1000001;
    private static final int IMPOSSIBLE = -1000002;
    private static final int LIMIT = -1000003;
    private static final int MISSING = -1000004;

    private static final Pattern EDIT = Pattern.compile(
            "(?:(\\+)(\\d\\d?),(\\d\\d?)|(-)(\\d\\d?)|(=)(\\d\\d?),(\\d\\d?)|(>)(\\d\\d?),(\\d\\d?),(\\d\\d?));");

    private static final class Word {
        final int value;

        Word(int value) {
            this.value = value;
        }
    }

    private static final class Mark {
        int place;
        Word word;
        List<Integer> around;

        Mark copy() {
            Mark copy = new Mark();
            copy.place = place;
            copy.word = word;
            copy.around = around;
            return copy;
        }
    }

    private static final class State {
        List<Word> row = new ArrayList<>();
        List<Mark> marks = new ArrayList<>();
        int[] settings = {6, 3, 1, 5, 2};
        int edits;

        State copy() {
            State copy = new State();
            copy.row.addAll(row);
            for (Mark mark : marks) {
                copy.marks.add(mark.copy());
            }
            copy.settings = settings.clone();
            copy.edits = edits;
            return copy;
        }

        Integer wordOrNull(int place) {
            return place < 0 || place >= row.size() ? null : Integer.valueOf(row.get(place).value);
        }

        List<Integer> around(int place) {
            List<Integer> around = new ArrayList<>();
            for (int p = place - 2; p <= place + 2; p++) {
                around.add(wordOrNull(p));
            }
            return around;
        }

        int score(List<Integer> remembered, int place) {
            int[] weights = {settings[2], settings[1], settings[0], settings[1], settings[2]};
            List<Integer> there = around(place);
            int sum = 0;
            for (int k = 0; k < 5; k++) {
                sum += java.util.Objects.equals(remembered.get(k), there.get(k)) ? weights[k] : 0;
            }
            return sum;
        }

        /** The places of the row, the best one first. */
        List<Integer> ranked(Mark mark) {
            List<Integer> places = new ArrayList<>();
            int[] scores = new int[row.size()];
            for (int p = 0; p < row.size(); p++) {
                places.add(p);
                scores[p] = score(mark.around, p);
            }
            places.sort(Comparator.<Integer>comparingInt(p -> -scores[p])
                    .thenComparingInt(p -> Math.abs(p - mark.place)).thenComparingInt(p -> p));
            return places;
        }

        int standing(Mark mark) {
            List<Integer> places = ranked(mark);
            if (places.isEmpty() || score(mark.around, places.get(0)) < settings[3]) {
                return 2;
            }
            boolean doubtful = places.size() > 1
                    && score(mark.around, places.get(1)) >= score(mark.around, places.get(0)) - settings[4];
            return doubtful ? 1 : 0;
        }

        int truePlace(Mark mark) {
            for (int p = 0; p < row.size(); p++) {
                if (row.get(p) == mark.word) {
                    return p;
                }
            }
            return -1;
        }

        boolean foundTruly(Mark mark) {
            return !row.isEmpty() && ranked(mark).get(0) == truePlace(mark);
        }

        int marksOf(int kind) {
            int set = 0;
            for (int k = 0; k < marks.size(); k++) {
                Mark mark = marks.get(k);
                boolean is = switch (kind) {
                    case 3 -> foundTruly(mark);
                    case 4 -> truePlace(mark) < 0;
                    case 5 -> truePlace(mark) >= 0 && standing(mark) == 2;
                    default -> standing(mark) == kind;
                };
                set += is ? (int) Math.pow(2, k) : 0;
            }
            return set;
        }

        int move(int from, int many, int to) {
            List<Word> before = new ArrayList<>(row);
            List<Word> block = new ArrayList<>(row.subList(from, from + many));
            row.removeAll(block);
            row.addAll(to, block);
            edits++;
            int elsewhere = 0;
            for (int p = 0; p < row.size(); p++) {
                elsewhere += before.get(p) == row.get(p) ? 0 : 1;
            }
            return elsewhere;
        }
    }

    private State now = new State();
    private final ArrayDeque<State> history = new ArrayDeque<>();
    private String text = "";

    private void record() {
        history.addLast(now.copy());
        if (history.size() > 4) {
            history.removeFirst();
        }
    }

    private boolean noPlace(int place) {
        return place < 0 || place >= now.row.size();
    }

    private boolean noMark(int mark) {
        return mark < 0 || mark >= now.marks.size();
    }

    private static boolean outside(int value, int least, int greatest) {
        return value < least || value > greatest;
    }

    @Override
    public int put(int place, int word) {
        if (outside(place, 0, now.row.size()) || outside(word, 0, 99)) {
            return INVALID;
        }
        if (now.row.size() == 40) {
            return LIMIT;
        }
        record();
        now.row.add(place, new Word(word));
        now.edits++;
        return now.row.size();
    }

    @Override
    public int take(int place) {
        if (noPlace(place)) {
            return INVALID;
        }
        record();
        now.edits++;
        return now.row.remove(place).value;
    }

    @Override
    public int change(int place, int word) {
        if (noPlace(place) || outside(word, 0, 99)) {
            return INVALID;
        }
        record();
        now.edits++;
        return now.row.set(place, new Word(word)).value;
    }

    @Override
    public int move(int from, int many, int to) {
        if (noPlace(from) || many < 1 || (long) from + many > now.row.size()
                || outside(to, 0, now.row.size() - many)) {
            return INVALID;
        }
        record();
        return now.move(from, many, to);
    }

    @Override
    public int anchor(int place) {
        if (noPlace(place)) {
            return INVALID;
        }
        if (now.marks.size() == 6) {
            return LIMIT;
        }
        record();
        Mark mark = new Mark();
        mark.place = place;
        mark.word = now.row.get(place);
        mark.around = now.around(place);
        now.marks.add(mark);
        return now.marks.size() - 1;
    }

    @Override
    public int drop(int anchor) {
        if (noMark(anchor)) {
            return INVALID;
        }
        record();
        now.marks.remove(anchor);
        return now.marks.size();
    }

    @Override
    public int find(int anchor) {
        if (noMark(anchor)) {
            return INVALID;
        }
        if (now.standing(now.marks.get(anchor)) == 2) {
            return IMPOSSIBLE;
        }
        record();
        Mark mark = now.marks.get(anchor);
        mark.place = now.ranked(mark).get(0);
        return mark.place;
    }

    @Override
    public int findAll() {
        record();
        int elsewhere = 0;
        for (Mark mark : now.marks) {
            if (now.standing(mark) != 2) {
                int best = now.ranked(mark).get(0);
                elsewhere += best == mark.place ? 0 : 1;
                mark.place = best;
            }
        }
        return elsewhere;
    }

    @Override
    public int remember(int anchor) {
        if (noMark(anchor)) {
            return INVALID;
        }
        if (noPlace(now.marks.get(anchor).place)) {
            return IMPOSSIBLE;
        }
        record();
        Mark mark = now.marks.get(anchor);
        List<Integer> before = mark.around;
        mark.around = now.around(mark.place);
        mark.word = now.row.get(mark.place);
        int others = 0;
        for (int k = 0; k < 5; k++) {
            others += java.util.Objects.equals(before.get(k), mark.around.get(k)) ? 0 : 1;
        }
        return others;
    }

    @Override
    public int set(int what, int value) {
        if (outside(what, 0, 4) || outside(value, 0, what < 3 ? 20 : 60)) {
            return INVALID;
        }
        record();
        int before = now.settings[what];
        now.settings[what] = value;
        return before;
    }

    @Override
    public int wordAt(int place) {
        if (place < 0) {
            return INVALID;
        }
        return noPlace(place) ? MISSING : now.row.get(place).value;
    }

    @Override
    public int anchorOf(int anchor, int what) {
        if (noMark(anchor) || outside(what, 0, 12)) {
            return INVALID;
        }
        Mark mark = now.marks.get(anchor);
        if (what == 0) {
            return mark.place;
        }
        if (what == 1) {
            return now.truePlace(mark) < 0 ? MISSING : now.truePlace(mark);
        }
        if (what <= 6) {
            Integer thing = mark.around.get(what - 2);
            return thing == null ? MISSING : thing;
        }
        if (what == 7) {
            return now.standing(mark);
        }
        if (what == 12) {
            return now.foundTruly(mark) ? 1 : 0;
        }
        List<Integer> places = now.ranked(mark);
        int rank = what < 10 ? 0 : 1;
        if (places.size() <= rank) {
            return MISSING;
        }
        return what % 2 == 0 ? places.get(rank) : now.score(mark.around, places.get(rank));
    }

    @Override
    public int score(int anchor, int place) {
        return noMark(anchor) || noPlace(place) ? INVALID : now.score(now.marks.get(anchor).around, place);
    }

    @Override
    public int anchors(int what) {
        return outside(what, 0, 5) ? INVALID : now.marksOf(what);
    }

    @Override
    public int blockOf(int index, int what) {
        if (index < 0 || outside(what, 0, 1)) {
            return INVALID;
        }
        TreeMap<Integer, List<Integer>> byShift = new TreeMap<>();
        for (int k = 0; k < now.marks.size(); k++) {
            Mark mark = now.marks.get(k);
            if (now.standing(mark) != 2 && now.ranked(mark).get(0) != mark.place) {
                byShift.computeIfAbsent(now.ranked(mark).get(0) - mark.place, s -> new ArrayList<>()).add(k);
            }
        }
        List<Integer> shifts = new ArrayList<>(byShift.keySet());
        shifts.sort(Comparator.comparingInt(s -> -byShift.get(s).size()));
        if (index >= shifts.size()) {
            return MISSING;
        }
        if (what == 1) {
            return shifts.get(index) + 100;
        }
        int set = 0;
        for (int k : byShift.get(shifts.get(index))) {
            set |= 1 << k;
        }
        return set;
    }

    private State without(int place) {
        State state = now.copy();
        state.row.remove(place);
        return state;
    }

    @Override
    public int wouldTake(int place, int what) {
        return noPlace(place) || outside(what, 0, 1) ? INVALID : without(place).marksOf(2 + what);
    }

    @Override
    public int safest(int what) {
        if (outside(what, 0, 1)) {
            return INVALID;
        }
        int[] lost = new int[now.row.size()];
        int best = 0;
        for (int p = 0; p < lost.length; p++) {
            lost[p] = Integer.bitCount(without(p).marksOf(2));
            best = lost[p] < lost[best] ? p : best;
        }
        return lost.length == 0 ? MISSING : what == 0 ? best : lost[best];
    }

    @Override
    public int clearest(int what) {
        if (outside(what, 0, 1)) {
            return INVALID;
        }
        int best = -1;
        int greatest = -1;
        for (int p = 0; p < now.row.size(); p++) {
            int other = 0;
            for (int q = 0; q < now.row.size(); q++) {
                other = q == p ? other : Math.max(other, now.score(now.around(p), q));
            }
            int difference = now.score(now.around(p), p) - other;
            if (difference > greatest) {
                best = p;
                greatest = difference;
            }
        }
        return best < 0 ? MISSING : what == 0 ? best : greatest;
    }

    @Override
    public int count(int what) {
        return switch (what) {
            case 0 -> now.row.size();
            case 1 -> now.marks.size();
            case 2 -> (int) now.row.stream().map(w -> w.value).distinct().count();
            case 3 -> now.edits;
            case 4 -> history.size();
            case 5 -> text.length();
            case 20, 21, 22, 23, 24 -> now.settings[what - 20];
            default -> INVALID;
        };
    }

    @Override
    public int undo() {
        if (history.isEmpty()) {
            return IMPOSSIBLE;
        }
        now = history.removeLast();
        return history.size();
    }

    @Override
    public int type(int character) {
        if (outside(character, 32, 126)) {
            return INVALID;
        }
        if (text.length() == 60) {
            return LIMIT;
        }
        text += (char) character;
        return text.length();
    }

    @Override
    public int clearText() {
        int before = text.length();
        text = "";
        return before;
    }

    /** Does the text's edits; answers the fault's position and reason, or null if there is none. */
    private int[] run(State state) {
        Matcher edit = EDIT.matcher(text);
        int start = 0;
        while (start < text.length()) {
            if (!edit.find(start) || edit.start() != start) {
                return new int[] {start, 1};
            }
            int reason = runOne(state, edit);
            if (reason != 0) {
                return new int[] {start, reason};
            }
            start = edit.end();
        }
        return null;
    }

    private static int number(Matcher edit, int group) {
        return Integer.parseInt(edit.group(group));
    }

    private static int runOne(State state, Matcher edit) {
        int size = state.row.size();
        if (edit.group(1) != null) {
            if (number(edit, 2) > size) {
                return 2;
            }
            if (size == 40) {
                return 3;
            }
            state.row.add(number(edit, 2), new Word(number(edit, 3)));
            state.edits++;
        } else if (edit.group(4) != null) {
            if (number(edit, 5) >= size) {
                return 2;
            }
            state.row.remove(number(edit, 5));
            state.edits++;
        } else if (edit.group(6) != null) {
            if (number(edit, 7) >= size) {
                return 2;
            }
            state.row.set(number(edit, 7), new Word(number(edit, 8)));
            state.edits++;
        } else {
            int from = number(edit, 10);
            int many = number(edit, 11);
            int to = number(edit, 12);
            if (from >= size || many == 0 || many > size - from || to > size - many) {
                return 2;
            }
            state.move(from, many, to);
        }
        return 0;
    }

    @Override
    public int fault(int what) {
        if (outside(what, 0, 1)) {
            return INVALID;
        }
        int[] fault = run(now.copy());
        return fault == null ? MISSING : fault[what];
    }

    @Override
    public int play() {
        if (run(now.copy()) != null) {
            return IMPOSSIBLE;
        }
        record();
        run(now);
        return now.row.size();
    }
}
