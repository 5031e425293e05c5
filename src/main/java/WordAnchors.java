/** Anchors in a row of words, as ../shared/DOC.md promises them. */
public final class WordAnchors {
    public static final int INVALID_ARGUMENT = -1000001;
    public static final int NOT_POSSIBLE = -1000002;
    public static final int LIMIT_REACHED = -1000003;
    public static final int NOT_FOUND = -1000004;

    /** No word, no place and no block alike: all of these count from 0. */
    private static final int NONE = -1;

    private static final int MOST_WORDS = 40;
    private static final int GREATEST_WORD = 99;
    private static final int MOST_ANCHORS = 6;
    private static final int MOST_STATES = 4;
    private static final int MOST_CHARACTERS = 60;

    private static final int THINGS = 5;
    /** How far ahead and behind an anchor looks: its own word is the thing with this index. */
    private static final int REACH = 2;

    private static final int[] GREATEST_SETTINGS = {20, 20, 20, 60, 60};
    private static final int LEAST_SCORE = 3;
    private static final int LEEWAY = 4;

    private static final int SURE = 0;
    private static final int DOUBTFUL = 1;
    private static final int LOST = 2;
    private static final int FOUND_TRULY = 3;
    private static final int WITHOUT_TRUE_PLACE = 4;
    private static final int LOST_WITH_TRUE_PLACE = 5;

    private static final int NO_FAULT = 0;
    private static final int BAD_FORM = 1;
    private static final int NO_SUCH_PLACE = 2;
    private static final int ROW_FULL = 3;

    private final State now = new State();
    /** Everything that only would be is tried on this one, so that no call makes objects. */
    private final State trial = new State();
    private final History history = new History();
    private final EditText text = new EditText();
    private final Blocks blocks = new Blocks();
    private final Anchor probe = new Anchor();

    public WordAnchors() {
    }

    // ---- edits

    public int put(int place, int word) {
        if (!now.row.takesAt(place) || !isWord(word)) {
            return INVALID_ARGUMENT;
        }
        if (now.row.isFull()) {
            return LIMIT_REACHED;
        }
        history.record(now);
        now.insertWord(place, word);
        return now.row.size();
    }

    public int take(int place) {
        if (!now.row.holds(place)) {
            return INVALID_ARGUMENT;
        }
        int taken = now.row.at(place);
        history.record(now);
        now.removeWord(place);
        return taken;
    }

    public int change(int place, int word) {
        if (!now.row.holds(place) || !isWord(word)) {
            return INVALID_ARGUMENT;
        }
        int before = now.row.at(place);
        history.record(now);
        now.replaceWord(place, word);
        return before;
    }

    public int move(int from, int many, int to) {
        if (!now.row.canShift(from, many, to)) {
            return INVALID_ARGUMENT;
        }
        history.record(now);
        now.shiftWords(from, many, to);
        return now.row.wordsElsewhere();
    }

    // ---- anchors

    public int anchor(int place) {
        if (!now.row.holds(place)) {
            return INVALID_ARGUMENT;
        }
        if (now.anchorCount() >= MOST_ANCHORS) {
            return LIMIT_REACHED;
        }
        history.record(now);
        now.addAnchor(place);
        return now.anchorCount() - 1;
    }

    public int drop(int anchor) {
        if (now.anchorNumbered(anchor) == null) {
            return INVALID_ARGUMENT;
        }
        history.record(now);
        now.removeAnchor(anchor);
        return now.anchorCount();
    }

    public int find(int anchor) {
        Anchor found = now.anchorNumbered(anchor);
        if (found == null) {
            return INVALID_ARGUMENT;
        }
        int best = now.bestPlace(found);
        if (now.isLost(found, best)) {
            return NOT_POSSIBLE;
        }
        history.record(now);
        found.goTo(best);
        return found.place();
    }

    public int findAll() {
        history.record(now);
        int elsewhere = 0;
        for (int number = 0; number < now.anchorCount(); number++) {
            Anchor found = now.anchorNumbered(number);
            int shift = now.shiftOf(found);
            if (found != null && shift != 0) {
                found.goTo(found.place() + shift);
                elsewhere++;
            }
        }
        return elsewhere;
    }

    public int remember(int anchor) {
        Anchor reminded = now.anchorNumbered(anchor);
        if (reminded == null) {
            return INVALID_ARGUMENT;
        }
        if (!now.row.holds(reminded.place())) {
            return NOT_POSSIBLE;
        }
        history.record(now);
        return reminded.look(now.row);
    }

    public int set(int what, int value) {
        if (what < 0 || what >= GREATEST_SETTINGS.length) {
            return INVALID_ARGUMENT;
        }
        if (value < 0 || value > GREATEST_SETTINGS[what]) {
            return INVALID_ARGUMENT;
        }
        int before = now.setting(what);
        history.record(now);
        now.changeSetting(what, value);
        return before;
    }

    // ---- what there is

    public int wordAt(int place) {
        if (place < 0) {
            return INVALID_ARGUMENT;
        }
        return orNotFound(now.row.at(place));
    }

    public int anchorOf(int anchor, int what) {
        Anchor told = now.anchorNumbered(anchor);
        if (told == null || what < 0 || what > 12) {
            return INVALID_ARGUMENT;
        }
        switch (what) {
            case 0:
                return told.place();
            case 1:
                return orNotFound(told.truePlace());
            case 7:
                return now.standingOf(told);
            case 8:
                return orNotFound(now.bestPlace(told));
            case 9:
                return scoreOrNotFound(told, now.bestPlace(told));
            case 10:
                return orNotFound(now.nextBestPlace(told));
            case 11:
                return scoreOrNotFound(told, now.nextBestPlace(told));
            case 12:
                return now.isOfKind(told, FOUND_TRULY) ? 1 : 0;
            default:
                return orNotFound(told.thing(what - 2));
        }
    }

    public int score(int anchor, int place) {
        Anchor scored = now.anchorNumbered(anchor);
        if (scored == null || !now.row.holds(place)) {
            return INVALID_ARGUMENT;
        }
        return now.scoreOf(scored, place);
    }

    public int anchors(int what) {
        if (what < SURE || what > LOST_WITH_TRUE_PLACE) {
            return INVALID_ARGUMENT;
        }
        return now.anchorsOfKind(what);
    }

    public int blockOf(int index, int what) {
        if (index < 0 || what < 0 || what > 1) {
            return INVALID_ARGUMENT;
        }
        blocks.gather(now);
        int block = blocks.inOrder(index);
        if (block == NONE) {
            return NOT_FOUND;
        }
        return what == 0 ? blocks.membersOf(block) : blocks.shiftOf(block) + 100;
    }

    // ---- what would be

    public int wouldTake(int place, int what) {
        if (!now.row.holds(place) || what < 0 || what > 1) {
            return INVALID_ARGUMENT;
        }
        tryTaking(place);
        return trial.anchorsOfKind(what == 0 ? LOST : FOUND_TRULY);
    }

    public int safest(int what) {
        if (what < 0 || what > 1) {
            return INVALID_ARGUMENT;
        }
        int safestPlace = NONE;
        int fewest = MOST_ANCHORS + 1;
        for (int place = 0; place < now.row.size() && fewest > 0; place++) {
            tryTaking(place);
            int lost = Integer.bitCount(trial.anchorsOfKind(LOST));
            if (lost < fewest) {
                safestPlace = place;
                fewest = lost;
            }
        }
        if (safestPlace == NONE) {
            return NOT_FOUND;
        }
        return what == 0 ? safestPlace : fewest;
    }

    public int clearest(int what) {
        if (what < 0 || what > 1) {
            return INVALID_ARGUMENT;
        }
        int clearestPlace = NONE;
        int greatest = 0;
        for (int place = 0; place < now.row.size(); place++) {
            int difference = differenceAt(place);
            if (clearestPlace == NONE || difference > greatest) {
                clearestPlace = place;
                greatest = difference;
            }
        }
        if (clearestPlace == NONE) {
            return NOT_FOUND;
        }
        return what == 0 ? clearestPlace : greatest;
    }

    public int count(int what) {
        switch (what) {
            case 0:
                return now.row.size();
            case 1:
                return now.anchorCount();
            case 2:
                return now.row.unlikeWords();
            case 3:
                return now.edits();
            case 4:
                return history.size();
            case 5:
                return text.length();
            case 20:
            case 21:
            case 22:
            case 23:
            case 24:
                return now.setting(what - 20);
            default:
                return INVALID_ARGUMENT;
        }
    }

    public int undo() {
        State latest = history.latest();
        if (latest == null) {
            return NOT_POSSIBLE;
        }
        now.copyFrom(latest);
        history.forgetLatest();
        return history.size();
    }

    // ---- texts

    public int type(int character) {
        if (character < 32 || character > 126) {
            return INVALID_ARGUMENT;
        }
        if (text.isFull()) {
            return LIMIT_REACHED;
        }
        text.append((char) character);
        return text.length();
    }

    public int clearText() {
        int before = text.length();
        text.empty();
        return before;
    }

    public int fault(int what) {
        if (what < 0 || what > 1) {
            return INVALID_ARGUMENT;
        }
        int reason = rehearse();
        if (reason == NO_FAULT) {
            return NOT_FOUND;
        }
        return what == 0 ? text.editStart() : reason;
    }

    public int play() {
        if (rehearse() != NO_FAULT) {
            return NOT_POSSIBLE;
        }
        history.record(now);
        now.copyFrom(trial);
        return now.row.size();
    }

    private static boolean isWord(int word) {
        return word >= 0 && word <= GREATEST_WORD;
    }

    private static int orNotFound(int value) {
        return value == NONE ? NOT_FOUND : value;
    }

    private int scoreOrNotFound(Anchor anchor, int place) {
        return place == NONE ? NOT_FOUND : now.scoreOf(anchor, place);
    }

    private void tryTaking(int place) {
        trial.copyFrom(now);
        trial.removeWord(place);
    }

    /** How much better a new anchor's score is at its place than at any other. */
    private int differenceAt(int place) {
        probe.setAt(now.row, place);
        int there = now.scoreOf(probe, place);
        int other = now.bestPlaceBut(probe, place);
        return other == NONE ? there : there - now.scoreOf(probe, other);
    }

    /** Does the edits of the text on the trial state, up to the first that is not possible. */
    private int rehearse() {
        trial.copyFrom(now);
        text.rewind();
        int reason = NO_FAULT;
        for (int k = 0; k < MOST_CHARACTERS && reason == NO_FAULT && text.hasMore(); k++) {
            reason = text.readEdit() ? trial.faultOf(text) : BAD_FORM;
            if (reason == NO_FAULT) {
                trial.perform(text);
            }
        }
        return reason;
    }

    private static final class Row {
        private final int[] words = new int[MOST_WORDS];
        private final int[] targets = new int[MOST_WORDS];
        private final int[] relocated = new int[MOST_WORDS];
        private int size;

        int size() {
            return size;
        }

        boolean isFull() {
            return size >= words.length;
        }

        boolean holds(int place) {
            return place >= 0 && place < size && place < words.length;
        }

        boolean takesAt(int place) {
            return place >= 0 && place <= size;
        }

        boolean canShift(int from, int many, int to) {
            return holds(from) && many >= 1 && many <= size - from
                    && to >= 0 && to <= size - many;
        }

        int at(int place) {
            return place >= 0 && place < size && place < words.length ? words[place] : NONE;
        }

        void insert(int place, int word) {
            if (!takesAt(place) || isFull()) {
                return;
            }
            for (int p = 0; p < targets.length; p++) {
                targets[p] = p < place ? p : p + 1;
            }
            relocate(size + 1);
            write(place, word);
        }

        void remove(int place) {
            if (!holds(place)) {
                return;
            }
            for (int p = 0; p < targets.length; p++) {
                int behind = p == place ? NONE : p - 1;
                targets[p] = p < place ? p : behind;
            }
            relocate(size - 1);
        }

        void replace(int place, int word) {
            if (!holds(place)) {
                return;
            }
            for (int p = 0; p < targets.length; p++) {
                targets[p] = p == place ? NONE : p;
            }
            write(place, word);
        }

        void shift(int from, int many, int to) {
            if (!canShift(from, many, to)) {
                return;
            }
            for (int p = 0; p < targets.length; p++) {
                targets[p] = placeAfterShift(p, from, many, to);
            }
            relocate(size);
        }

        private static int placeAfterShift(int place, int from, int many, int to) {
            if (place >= from && place < from + many) {
                return place - from + to;
            }
            int withoutBlock = place < from ? place : place - many;
            return withoutBlock < to ? withoutBlock : withoutBlock + many;
        }

        private void relocate(int newSize) {
            for (int p = 0; p < size && p < words.length; p++) {
                int target = targetOf(p);
                if (target >= 0 && target < relocated.length) {
                    relocated[target] = words[p];
                }
            }
            for (int p = 0; p < newSize && p < relocated.length; p++) {
                write(p, relocated[p]);
            }
            size = newSize;
        }

        private void write(int place, int word) {
            if (place >= 0 && place < words.length) {
                words[place] = word;
            }
        }

        /** Where the last edit brought the word that was at a place; NONE if it is there no more. */
        int targetOf(int place) {
            return place >= 0 && place < targets.length ? targets[place] : NONE;
        }

        /** How many words the last edit, which took none, brought to another place. */
        int wordsElsewhere() {
            int elsewhere = 0;
            for (int p = 0; p < size; p++) {
                if (targetOf(p) != p) {
                    elsewhere++;
                }
            }
            return elsewhere;
        }

        int unlikeWords() {
            int unlike = 0;
            for (int p = 0; p < size; p++) {
                if (!standsAhead(p)) {
                    unlike++;
                }
            }
            return unlike;
        }

        /** Tells whether the word at a place is also at a lower one. */
        private boolean standsAhead(int place) {
            for (int p = 0; p < place; p++) {
                if (at(p) == at(place)) {
                    return true;
                }
            }
            return false;
        }

        void copyFrom(Row other) {
            for (int p = 0; p < words.length; p++) {
                words[p] = other.at(p);
            }
            size = other.size;
        }
    }

    private static final class Anchor {
        private final int[] things = new int[THINGS];
        private int place;
        private int truePlace;

        int place() {
            return place;
        }

        int truePlace() {
            return truePlace;
        }

        int thing(int index) {
            return index >= 0 && index < things.length ? things[index] : NONE;
        }

        void goTo(int newPlace) {
            place = newPlace;
        }

        void setAt(Row row, int newPlace) {
            goTo(newPlace);
            look(row);
        }

        /** Remembers what is around its place now, and returns how many things are other ones. */
        int look(Row row) {
            int others = 0;
            for (int k = 0; k < things.length; k++) {
                int seen = row.at(place + k - REACH);
                if (things[k] != seen) {
                    others++;
                }
                things[k] = seen;
            }
            truePlace = place;
            return others;
        }

        void followWord(Row row) {
            truePlace = row.targetOf(truePlace);
        }

        void copyFrom(Anchor other) {
            place = other.place;
            truePlace = other.truePlace;
            for (int k = 0; k < things.length; k++) {
                things[k] = other.thing(k);
            }
        }
    }

    /** Everything that the history records. */
    private static final class State {
        final Row row = new Row();
        private final Anchor[] anchors = new Anchor[MOST_ANCHORS];
        private final int[] settings = {6, 3, 1, 5, 2};
        private int anchorCount;
        private int edits;

        State() {
            for (int k = 0; k < anchors.length; k++) {
                anchors[k] = new Anchor();
            }
        }

        int anchorCount() {
            return anchorCount;
        }

        int edits() {
            return edits;
        }

        int setting(int what) {
            return what >= 0 && what < settings.length ? settings[what] : 0;
        }

        void changeSetting(int what, int value) {
            if (what >= 0 && what < settings.length) {
                settings[what] = value;
            }
        }

        /** The anchor with this number, or null if there is none. */
        Anchor anchorNumbered(int number) {
            if (number < 0 || number >= anchorCount || number >= anchors.length) {
                return null;
            }
            return anchors[number];
        }

        void addAnchor(int place) {
            if (anchorCount >= anchors.length) {
                return;
            }
            anchorCount++;
            Anchor added = anchorNumbered(anchorCount - 1);
            if (added != null) {
                added.setAt(row, place);
            }
        }

        void removeAnchor(int number) {
            if (number < 0 || number >= anchorCount) {
                return;
            }
            for (int k = number + 1; k < anchorCount; k++) {
                Anchor lower = anchorNumbered(k - 1);
                Anchor upper = anchorNumbered(k);
                if (lower != null && upper != null) {
                    lower.copyFrom(upper);
                }
            }
            anchorCount--;
        }

        void insertWord(int place, int word) {
            row.insert(place, word);
            followWords();
        }

        void removeWord(int place) {
            row.remove(place);
            followWords();
        }

        void replaceWord(int place, int word) {
            row.replace(place, word);
            followWords();
        }

        void shiftWords(int from, int many, int to) {
            row.shift(from, many, to);
            followWords();
        }

        private void followWords() {
            edits++;
            for (int k = 0; k < anchorCount; k++) {
                Anchor follower = anchorNumbered(k);
                if (follower != null) {
                    follower.followWord(row);
                }
            }
        }

        int scoreOf(Anchor anchor, int place) {
            int sum = 0;
            for (int k = 0; k < THINGS; k++) {
                int offset = k - REACH;
                if (anchor.thing(k) == row.at(place + offset)) {
                    // The settings 0 to 2 are the weights by distance.
                    sum += setting(Math.abs(offset));
                }
            }
            return sum;
        }

        int bestPlace(Anchor anchor) {
            return bestPlaceBut(anchor, NONE);
        }

        int nextBestPlace(Anchor anchor) {
            return bestPlaceBut(anchor, bestPlace(anchor));
        }

        /** The best place among all but one; NONE if there is no other. */
        int bestPlaceBut(Anchor anchor, int except) {
            int best = NONE;
            int bestScore = 0;
            int bestDistance = 0;
            for (int place = 0; place < row.size(); place++) {
                int score = scoreOf(anchor, place);
                int distance = Math.abs(place - anchor.place());
                boolean better = best == NONE || score > bestScore
                        || (score == bestScore && distance < bestDistance);
                if (place != except && better) {
                    best = place;
                    bestScore = score;
                    bestDistance = distance;
                }
            }
            return best;
        }

        /** Tells whether an anchor with this best place is lost. */
        boolean isLost(Anchor anchor, int best) {
            return best == NONE || scoreOf(anchor, best) < setting(LEAST_SCORE);
        }

        int standingOf(Anchor anchor) {
            int best = bestPlaceBut(anchor, NONE);
            if (isLost(anchor, best)) {
                return LOST;
            }
            int next = bestPlaceBut(anchor, best);
            int near = scoreOf(anchor, best) - setting(LEEWAY);
            return next != NONE && scoreOf(anchor, next) >= near ? DOUBTFUL : SURE;
        }

        /** How far finding it anew would bring the anchor; 0 for a lost one. */
        int shiftOf(Anchor anchor) {
            if (anchor == null) {
                return 0;
            }
            int best = bestPlace(anchor);
            return isLost(anchor, best) ? 0 : best - anchor.place();
        }

        boolean isOfKind(Anchor anchor, int kind) {
            switch (kind) {
                case LOST:
                    return isLost(anchor, bestPlace(anchor));
                case FOUND_TRULY:
                    // Without a best place there is no word left, so no true place either.
                    return anchor.truePlace() != NONE && anchor.truePlace() == bestPlace(anchor);
                case WITHOUT_TRUE_PLACE:
                    return anchor.truePlace() == NONE;
                case LOST_WITH_TRUE_PLACE:
                    return anchor.truePlace() != NONE
                            && isLost(anchor, bestPlace(anchor));
                default:
                    return standingOf(anchor) == kind;
            }
        }

        int anchorsOfKind(int kind) {
            int members = 0;
            for (int k = 0; k < anchorCount; k++) {
                Anchor member = anchorNumbered(k);
                if (member != null && isOfKind(member, kind)) {
                    members |= 1 << k;
                }
            }
            return members;
        }

        /** The reason why the edit that was read last is not possible here, or NO_FAULT. */
        int faultOf(EditText edit) {
            int place = edit.number(0);
            boolean placed;
            switch (edit.sign()) {
                case '+':
                    placed = row.takesAt(place);
                    break;
                case '>':
                    placed = row.canShift(place, edit.number(1), edit.number(2));
                    break;
                default:
                    placed = row.holds(place);
                    break;
            }
            if (!placed) {
                return NO_SUCH_PLACE;
            }
            return edit.sign() == '+' && row.isFull() ? ROW_FULL : NO_FAULT;
        }

        void perform(EditText edit) {
            int place = edit.number(0);
            switch (edit.sign()) {
                case '+':
                    insertWord(place, edit.number(1));
                    break;
                case '-':
                    removeWord(place);
                    break;
                case '=':
                    replaceWord(place, edit.number(1));
                    break;
                default:
                    shiftWords(place, edit.number(1), edit.number(2));
                    break;
            }
        }

        void copyFrom(State other) {
            row.copyFrom(other.row);
            anchorCount = other.anchorCount;
            for (int k = 0; k < anchorCount; k++) {
                Anchor copy = anchorNumbered(k);
                Anchor original = other.anchorNumbered(k);
                if (copy != null && original != null) {
                    copy.copyFrom(original);
                }
            }
            for (int k = 0; k < settings.length; k++) {
                settings[k] = other.setting(k);
            }
            edits = other.edits;
        }
    }

    /** The latest states, in a ring: the oldest one's place is used again for a new one. */
    private static final class History {
        private final State[] states = new State[MOST_STATES];
        private int oldest;
        private int size;

        History() {
            for (int k = 0; k < states.length; k++) {
                states[k] = new State();
            }
        }

        int size() {
            return size;
        }

        private State fromOldest(int steps) {
            int index = (oldest + steps) % MOST_STATES;
            return index >= 0 && index < states.length ? states[index] : null;
        }

        void record(State state) {
            State free = fromOldest(size);
            if (free != null) {
                free.copyFrom(state);
            }
            if (size < MOST_STATES) {
                size++;
            } else {
                oldest = (oldest + 1) % MOST_STATES;
            }
        }

        /** The latest state, or null if there is none. */
        State latest() {
            return size == 0 ? null : fromOldest(size - 1);
        }

        void forgetLatest() {
            if (size > 0) {
                size--;
            }
        }
    }

    /** The blocks of anchors that moved together, each with its shift. */
    private static final class Blocks {
        private final int[] shifts = new int[MOST_ANCHORS];
        private final int[] members = new int[MOST_ANCHORS];
        private int size;

        int membersOf(int block) {
            return block >= 0 && block < size && block < members.length ? members[block] : 0;
        }

        int shiftOf(int block) {
            return block >= 0 && block < size && block < shifts.length ? shifts[block] : 0;
        }

        void gather(State state) {
            size = 0;
            for (int k = 0; k < state.anchorCount(); k++) {
                int shift = state.shiftOf(state.anchorNumbered(k));
                if (shift != 0) {
                    enter(k, shift);
                }
            }
        }

        private void enter(int anchor, int shift) {
            int block = 0;
            while (block < size && shiftOf(block) != shift) {
                block++;
            }
            if (block >= shifts.length || block >= members.length) {
                return;
            }
            if (block == size) {
                shifts[block] = shift;
                members[block] = 0;
                size++;
            }
            members[block] |= 1 << anchor;
        }

        /** The block that has so many others ahead of it, or NONE. */
        int inOrder(int index) {
            for (int block = 0; block < size; block++) {
                if (blocksAheadOf(block) == index) {
                    return block;
                }
            }
            return NONE;
        }

        private int blocksAheadOf(int block) {
            int ahead = 0;
            for (int other = 0; other < size; other++) {
                if (isAhead(other, block)) {
                    ahead++;
                }
            }
            return ahead;
        }

        private boolean isAhead(int block, int other) {
            int more = Integer.bitCount(membersOf(block)) - Integer.bitCount(membersOf(other));
            return more > 0 || (more == 0 && shiftOf(block) < shiftOf(other));
        }
    }

    /** The text, and the edit that was read from it last. */
    private static final class EditText {
        private static final int MOST_NUMBERS = 3;
        private static final int MOST_DIGITS = 2;
        /** Behind the text: no character that can be typed. */
        private static final char END = 0;

        private final char[] characters = new char[MOST_CHARACTERS];
        private final int[] numbers = new int[MOST_NUMBERS];
        private int length;
        private int start;
        private int next;
        private char sign;

        int length() {
            return length;
        }

        boolean isFull() {
            return length >= characters.length;
        }

        void append(char character) {
            if (length >= 0 && length < characters.length) {
                characters[length] = character;
                length++;
            }
        }

        void empty() {
            length = 0;
        }

        void rewind() {
            next = 0;
        }

        boolean hasMore() {
            return next < length;
        }

        /** The position of the first character of the edit. */
        int editStart() {
            return start;
        }

        char sign() {
            return sign;
        }

        int number(int index) {
            return index >= 0 && index < numbers.length ? numbers[index] : 0;
        }

        /** Reads the next edit with its ";" and tells whether it is of the form. */
        boolean readEdit() {
            start = next;
            sign = nextCharacter();
            next++;
            int due = numbersBehind(sign);
            boolean formed = due > 0;
            for (int k = 0; k < due && formed; k++) {
                formed = (k == 0 || readSign(',')) && readNumber(k);
            }
            return formed && readSign(';');
        }

        private static int numbersBehind(char sign) {
            switch (sign) {
                case '-':
                    return 1;
                case '+':
                case '=':
                    return 2;
                case '>':
                    return 3;
                default:
                    return 0;
            }
        }

        private char nextCharacter() {
            return next >= 0 && next < length && next < characters.length ? characters[next] : END;
        }

        private boolean readSign(char due) {
            if (nextCharacter() != due) {
                return false;
            }
            next++;
            return true;
        }

        private boolean readNumber(int index) {
            int number = 0;
            int digits = 0;
            while (digits < MOST_DIGITS && isDigit(nextCharacter())) {
                number = number * 10 + (nextCharacter() - '0');
                digits++;
                next++;
            }
            if (index >= 0 && index < numbers.length) {
                numbers[index] = number;
            }
            return digits > 0;
        }

        private static boolean isDigit(char character) {
            return character >= '0' && character <= '9';
        }
    }
}
