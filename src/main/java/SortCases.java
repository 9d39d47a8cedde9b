/** A typecase that sorts itself while the compositor sets lines from it. ../shared/DOC.md says what each call does. */
public final class SortCases {
    /** There is nothing to return. */
    public static final int NONE = -1;

    private static final int SORTS = 12;
    private static final int TYPES_OF_A_SORT = 6;
    private static final int TYPES = SORTS * TYPES_OF_A_SORT;
    private static final int ROOM_OF_A_BOX = 20;

    private static final int MEASURE = 0;
    private static final int BEATS_BEHIND_A_LETTER = 1;
    private static final int BACK_BY_THE_TEXT = 2;
    private static final int[] LOWEST_VALUES = {20, 0, 0};
    private static final int[] HIGHEST_VALUES = {120, 9, 1};

    private static final int CAN_BE_DONE = 0;
    private static final int BOX_IS_EMPTY = 1;
    private static final int LINE_TOO_WIDE = 2;
    private static final int NO_ERROR_THERE = 3;
    private static final int NO_RIGHT_TYPE = 4;
    private static final int BOX_IS_FULL = 5;
    private static final int BOX_WOULD_OVERFLOW = 6;
    private static final int NO_SUCH_PLACE = 7;

    private static final int MOST_BEATS_OF_A_CALL = 99;
    private static final int MOST_TIMES = 20;
    private static final int MOST_SAVED_STATES = 6;
    private static final int BUFFER_SIZE = 60;
    private static final int LOWEST_CODE = 33;
    private static final int HIGHEST_CODE = 126;

    private static final int NUMBERS_OF_A_BOX = 7;
    private static final int NUMBERS_OF_A_PLACE = 4;
    private static final int NUMBERS_OF_ALL = 18;

    private static final long FIRST_HASH = 3863L;
    private static final int TIMES_IN_THE_HASH = 3;

    private static final PartKind[] PART_KINDS = PartKind.values();

    private final State state = new State();
    private final History history = new History();
    private final State snapshot = new State();
    private boolean hasSnapshot = false;
    private final Text text = new Text();
    /** Made once and used again, so that telling what would be makes no new objects. */
    private final Boxes trial = new Boxes();

    /** Makes a case in order, with an empty line, an empty buffer and no snapshot. */
    public SortCases() {
    }

    // ---- setting.

    public int set(int letter) throws IndexOutOfBoundsException, IllegalStateException {
        if (!isSort(letter)) {
            throw new IndexOutOfBoundsException("there is no such letter");
        }
        if (state.whyNotSet(letter) != CAN_BE_DONE) {
            throw new IllegalStateException("the letter cannot be set");
        }
        history.save(state);
        return state.setLetter(letter);
    }

    public int idle(int beats) throws IllegalArgumentException {
        if (beats < 1 || beats > MOST_BEATS_OF_A_CALL) {
            throw new IllegalArgumentException("beats is out of range");
        }
        history.save(state);
        return state.rest(beats);
    }

    public int fix(int place) throws IndexOutOfBoundsException, IllegalStateException {
        if (!state.line.has(place)) {
            throw new IndexOutOfBoundsException("the line has no such place");
        }
        if (state.whyNotCorrect(place) != CAN_BE_DONE) {
            throw new IllegalStateException("the place cannot be corrected");
        }
        history.save(state);
        state.correct(place);
        return state.line.errors();
    }

    public int back() throws IllegalStateException {
        if (state.whyNotReturn() != CAN_BE_DONE) {
            throw new IllegalStateException("a box would overflow");
        }
        history.save(state);
        state.returnLine();
        return state.boxes.wrong();
    }

    public int swap(int box, int other) throws IndexOutOfBoundsException {
        if (!isSort(box) || !isSort(other)) {
            throw new IndexOutOfBoundsException("there is no such box");
        }
        history.save(state);
        state.exchange(box, other);
        return state.boxes.wrong();
    }

    public int change(int setting, int value) throws IndexOutOfBoundsException, IllegalArgumentException {
        if (setting < 0 || setting >= LOWEST_VALUES.length || setting >= HIGHEST_VALUES.length) {
            throw new IndexOutOfBoundsException("there is no such setting");
        }
        if (value < LOWEST_VALUES[setting] || value > HIGHEST_VALUES[setting]) {
            throw new IllegalArgumentException("value is out of range");
        }
        history.save(state);
        return state.changeSetting(setting, value);
    }

    // ---- texts.

    public int append(int code) throws IllegalArgumentException, IllegalStateException {
        if (code < LOWEST_CODE || code > HIGHEST_CODE) {
            throw new IllegalArgumentException("code is not 33 to 126");
        }
        if (text.length >= BUFFER_SIZE) {
            throw new IllegalStateException("the buffer is full");
        }
        text.add(code);
        return text.length;
    }

    public int clearBuffer() {
        int length = text.length;
        text.clear();
        return length;
    }

    public int firstError() {
        return text.firstMisfit();
    }

    public int work() throws IllegalArgumentException {
        if (!text.isWhole()) {
            throw new IllegalArgumentException("the buffer is not complete works as a text");
        }
        history.save(state);
        int done = 0;
        int start = 0;
        int reason = CAN_BE_DONE;
        for (int end = 0; end <= text.length && reason == CAN_BE_DONE; end++) {
            if (text.isPartEnd(end)) {
                reason = doPart(start, end);
                done += reason == CAN_BE_DONE ? 1 : 0;
                start = end + 1;
            }
        }
        state.stopPart = reason == CAN_BE_DONE ? NONE : done;
        state.stopReason = reason == CAN_BE_DONE ? NONE : reason;
        text.clear();
        return done;
    }

    public int stopped(int what) throws IllegalArgumentException {
        if (what < 0 || what > 1) {
            throw new IllegalArgumentException("what is neither 0 nor 1");
        }
        return what == 0 ? state.stopPart : state.stopReason;
    }

    public int told(int index) throws IllegalArgumentException {
        if (index < 0) {
            throw new IllegalArgumentException("index is below 0");
        }
        return state.line.characterAt(index);
    }

    // ---- undo, the snapshot.

    public int undo() throws IllegalStateException {
        if (history.size <= 0) {
            throw new IllegalStateException("there is no saved state");
        }
        history.giveBack(state);
        return history.size;
    }

    public int keep() {
        snapshot.copyFrom(state);
        hasSnapshot = true;
        return state.line.length;
    }

    public int restore() throws IllegalStateException {
        if (!hasSnapshot) {
            throw new IllegalStateException("there is no snapshot");
        }
        history.save(state);
        state.copyFrom(snapshot);
        return state.line.length;
    }

    // ---- looks; nothing is changed.

    public int box(int box, int what) throws IndexOutOfBoundsException, IllegalArgumentException {
        if (!isSort(box)) {
            throw new IndexOutOfBoundsException("there is no such box");
        }
        if (what < 0 || what >= NUMBERS_OF_A_BOX) {
            throw new IllegalArgumentException("what is not 0 to 6");
        }
        return numberOfBox(box, what);
    }

    public int type(int box, int deep) throws IndexOutOfBoundsException, IllegalArgumentException {
        if (!isSort(box)) {
            throw new IndexOutOfBoundsException("there is no such box");
        }
        if (deep < 0) {
            throw new IllegalArgumentException("deep is below 0");
        }
        return state.boxes.typeAt(box, deep);
    }

    public int line(int place, int what) throws IndexOutOfBoundsException, IllegalArgumentException {
        if (!state.line.has(place)) {
            throw new IndexOutOfBoundsException("the line has no such place");
        }
        if (what < 0 || what >= NUMBERS_OF_A_PLACE) {
            throw new IllegalArgumentException("what is not 0 to 3");
        }
        return numberOfPlace(place, what);
    }

    public int count(int what) throws IllegalArgumentException {
        if (what < 0 || what >= NUMBERS_OF_ALL) {
            throw new IllegalArgumentException("what is not 0 to 17");
        }
        return numberOfAll(what);
    }

    // ---- what would be; nothing is changed.

    public int whyNot(int letter) throws IndexOutOfBoundsException {
        if (!isSort(letter)) {
            throw new IndexOutOfBoundsException("there is no such letter");
        }
        return state.whyNotSet(letter);
    }

    public int ifSet(int letter, int times) throws IndexOutOfBoundsException, IllegalArgumentException {
        if (!isSort(letter)) {
            throw new IndexOutOfBoundsException("there is no such letter");
        }
        if (times < 1 || times > MOST_TIMES) {
            throw new IllegalArgumentException("times is out of range");
        }
        return state.errorsIfSet(letter, times);
    }

    public int sortedIn() {
        trial.copyFrom(state.boxes);
        return trial.sortAll();
    }

    public int wrongThen() {
        trial.copyFrom(state.boxes);
        trial.sortAll();
        return trial.wrong();
    }

    public double rightShare() {
        int places = state.line.length;
        if (places <= 0) {
            return 1.0;
        }
        return (double) (places - state.line.errors()) / (double) places;
    }

    public long digest() {
        long hash = FIRST_HASH;
        for (int what = 0; what < NUMBERS_OF_ALL; what++) {
            hash = mixed(hash, numberOfAll(what));
        }
        for (int box = 0; box < SORTS; box++) {
            hash = mixedWithBox(hash, box);
        }
        hash = mixedWithLine(hash);
        hash = mixed(hash, state.stopPart);
        hash = mixed(hash, state.stopReason);
        hash = mixed(hash, sortedIn());
        hash = mixed(hash, wrongThen());
        hash = mixed(hash, bitsOf(rightShare()));
        hash = mixed(hash, text.length);
        for (int index = 0; index < text.length; index++) {
            hash = mixed(hash, text.codeAt(index));
        }
        return hash;
    }

    private static boolean isSort(int number) {
        return number >= 0 && number < SORTS;
    }

    private static int widthOf(int sort) {
        return 2 + sort % 3;
    }

    private int numberOfBox(int box, int what) {
        switch (what) {
            case 0:
                return state.boxes.heightOf(box);
            case 1:
                return state.boxes.wrongIn(box);
            case 2:
                return state.boxes.typeAt(box, 0);
            case 3:
                return widthOf(box);
            case 4:
                return state.hand == box ? 1 : 0;
            case 5:
                return state.boxes.sortedBox == box ? 1 : 0;
            default:
                return state.boxes.strayOf(box);
        }
    }

    private int numberOfPlace(int place, int what) {
        switch (what) {
            case 0:
                return state.line.sortAt(place);
            case 1:
                return state.line.letterAt(place);
            case 2:
                return state.line.isWrongAt(place) ? 1 : 0;
            default:
                return state.whyNotCorrect(place);
        }
    }

    private int numberOfAll(int what) {
        switch (what) {
            case 0:
                return state.line.length;
            case 1:
                return state.line.width();
            case 2:
                return state.line.errors();
            case 3:
                return state.boxes.types();
            case 4:
                return state.boxes.wrong();
            case 5:
                return state.wrongBySorts();
            case 6:
                return state.boxes.wrong() == 0 ? 1 : 0;
            case 7:
                return state.hand;
            case 8:
                return state.boxes.sortedBox;
            case 9:
                return state.lettersSet;
            case 10:
                return state.typesMoved;
            case 11:
                return state.beatsPassed;
            case 12:
                return state.corrections;
            case 13:
                return state.linesReturned;
            case 14:
            case 15:
            case 16:
                return state.settingAt(what - 14);
            default:
                return history.size;
        }
    }

    private int doPart(int start, int end) {
        PartKind kind = text.kindOf(start, end);
        if (kind == null) {
            return CAN_BE_DONE;
        }
        int from = start + kind.word.length();
        if (kind == PartKind.SET) {
            return setLetters(from, end);
        }
        if (kind == PartKind.FIX) {
            return correctIfPossible(text.numberIn(from, end));
        }
        if (kind == PartKind.BACK) {
            return returnIfPossible();
        }
        if (kind == PartKind.IDLE) {
            state.rest(text.numberIn(from, end));
        } else {
            state.exchange(text.letterAt(from), text.letterAt(from + 1));
        }
        return CAN_BE_DONE;
    }

    private int setLetters(int from, int end) {
        for (int index = from; index < end; index++) {
            int letter = text.letterAt(index);
            int reason = state.whyNotSet(letter);
            if (reason != CAN_BE_DONE) {
                return reason;
            }
            state.setLetter(letter);
        }
        return CAN_BE_DONE;
    }

    private int correctIfPossible(int place) {
        if (!state.line.has(place)) {
            return NO_SUCH_PLACE;
        }
        int reason = state.whyNotCorrect(place);
        if (reason == CAN_BE_DONE) {
            state.correct(place);
        }
        return reason;
    }

    private int returnIfPossible() {
        int reason = state.whyNotReturn();
        if (reason == CAN_BE_DONE) {
            state.returnLine();
        }
        return reason;
    }

    private static long mixed(long hash, long value) {
        return 31L * hash + value;
    }

    private long mixedWithBox(long before, int box) {
        long hash = before;
        for (int what = 0; what < NUMBERS_OF_A_BOX; what++) {
            hash = mixed(hash, numberOfBox(box, what));
        }
        hash = mixed(hash, state.whyNotSet(box));
        hash = mixed(hash, state.errorsIfSet(box, TIMES_IN_THE_HASH));
        int height = state.boxes.heightOf(box);
        for (int deep = 0; deep < height; deep++) {
            hash = mixed(hash, state.boxes.typeAt(box, deep));
        }
        return hash;
    }

    private long mixedWithLine(long before) {
        long hash = before;
        for (int place = 0; place < state.line.length; place++) {
            for (int what = 0; what < NUMBERS_OF_A_PLACE; what++) {
                hash = mixed(hash, numberOfPlace(place, what));
            }
        }
        int characters = state.line.length + state.line.errors();
        for (int index = 0; index < characters; index++) {
            hash = mixed(hash, state.line.characterAt(index));
        }
        return hash;
    }

    /** The bits of a double from 0.0 to 1.0; worked out here, as the language leaves no library call for them. */
    private static long bitsOf(double share) {
        if (share <= 0.0) {
            return 0L;
        }
        double scaled = share;
        long exponent = 1023L;
        for (int i = 0; i < 1023 && scaled < 1.0; i++) {
            scaled = scaled * 2.0;
            exponent--;
        }
        long fraction = (long) ((scaled - 1.0) * 4503599627370496.0);
        return (exponent << 52) + fraction;
    }

    /** The boxes of the case with their types, and the box at which the case sorts. */
    private static final class Boxes {
        /** Each box has its own stretch of ROOM_OF_A_BOX numbers, with the lowest type first. */
        private final int[] sorts = new int[SORTS * ROOM_OF_A_BOX];
        private final int[] heights = new int[SORTS];
        private int sortedBox = 0;

        Boxes() {
            for (int box = 0; box < SORTS; box++) {
                for (int i = 0; i < TYPES_OF_A_SORT; i++) {
                    put(box, box);
                }
            }
        }

        void copyFrom(Boxes other) {
            for (int i = 0; i < sorts.length && i < other.sorts.length; i++) {
                sorts[i] = other.sorts[i];
            }
            for (int i = 0; i < heights.length && i < other.heights.length; i++) {
                heights[i] = other.heights[i];
            }
            sortedBox = other.sortedBox;
        }

        int heightOf(int box) {
            return box >= 0 && box < heights.length ? heights[box] : 0;
        }

        boolean hasRoom(int box) {
            return box >= 0 && box < heights.length && heights[box] < ROOM_OF_A_BOX;
        }

        int typeAt(int box, int deep) {
            if (box < 0 || box >= heights.length || deep < 0 || deep >= heights[box]) {
                return NONE;
            }
            int slot = box * ROOM_OF_A_BOX + heights[box] - 1 - deep;
            return slot >= 0 && slot < sorts.length ? sorts[slot] : NONE;
        }

        void put(int box, int sort) {
            if (box < 0 || box >= heights.length || heights[box] >= ROOM_OF_A_BOX) {
                return;
            }
            int slot = box * ROOM_OF_A_BOX + heights[box];
            if (slot >= 0 && slot < sorts.length) {
                sorts[slot] = sort;
                heights[box]++;
            }
        }

        void dropUpmost(int box) {
            if (box >= 0 && box < heights.length && heights[box] > 0) {
                heights[box]--;
            }
        }

        /** Those above the type sink by one, so that they keep their order. */
        void dropAt(int box, int deep) {
            if (box < 0 || box >= heights.length || deep < 0 || deep >= heights[box]) {
                return;
            }
            int top = box * ROOM_OF_A_BOX + heights[box] - 1;
            for (int slot = top - deep; slot < top; slot++) {
                if (slot >= 0 && slot + 1 < sorts.length) {
                    sorts[slot] = sorts[slot + 1];
                }
            }
            heights[box]--;
        }

        void exchangeUpmost(int box, int other) {
            if (box == other) {
                return;
            }
            int sort = typeAt(box, 0);
            int otherSort = typeAt(other, 0);
            dropUpmost(box);
            dropUpmost(other);
            if (sort != NONE) {
                put(other, sort);
            }
            if (otherSort != NONE) {
                put(box, otherSort);
            }
        }

        /** One idle beat; tells whether a type moved in it. */
        boolean sortInOneBeat(int hand) {
            int sort = typeAt(sortedBox, 0);
            boolean wrong = sort != NONE && sort != sortedBox;
            if (wrong && sortedBox != hand && sort != hand && hasRoom(sort)) {
                dropUpmost(sortedBox);
                put(sort, sort);
                return true;
            }
            sortedBox = sortedBox + 1 < SORTS ? sortedBox + 1 : 0;
            return false;
        }

        /** Lets beats pass, with no hand, until a whole round brings no move; tells the beat of the last move. */
        int sortAll() {
            int lastMove = 0;
            // A type moves once at the most, as it lies right then; so the first bound is never reached.
            for (int beat = 1; beat <= (TYPES + 1) * SORTS && beat - lastMove <= SORTS; beat++) {
                if (sortInOneBeat(NONE)) {
                    lastMove = beat;
                }
            }
            return lastMove;
        }

        int depthOfRight(int box) {
            int height = heightOf(box);
            for (int deep = 0; deep < height; deep++) {
                if (typeAt(box, deep) == box) {
                    return deep;
                }
            }
            return NONE;
        }

        int countIn(int box, int sort) {
            int height = heightOf(box);
            int found = 0;
            for (int deep = 0; deep < height; deep++) {
                if (typeAt(box, deep) == sort) {
                    found++;
                }
            }
            return found;
        }

        int wrongIn(int box) {
            return heightOf(box) - countIn(box, box);
        }

        int wrong() {
            int found = 0;
            for (int box = 0; box < SORTS; box++) {
                found += wrongIn(box);
            }
            return found;
        }

        int strayOf(int sort) {
            int found = 0;
            for (int box = 0; box < SORTS; box++) {
                if (box != sort) {
                    found += countIn(box, sort);
                }
            }
            return found;
        }

        int types() {
            int found = 0;
            for (int box = 0; box < SORTS; box++) {
                found += heightOf(box);
            }
            return found;
        }
    }

    /** The line: its types, and the text that it should be. */
    private static final class Line {
        private final int[] sorts = new int[TYPES];
        private final int[] letters = new int[TYPES];
        private int length = 0;

        void copyFrom(Line other) {
            for (int i = 0; i < sorts.length && i < other.sorts.length; i++) {
                sorts[i] = other.sorts[i];
            }
            for (int i = 0; i < letters.length && i < other.letters.length; i++) {
                letters[i] = other.letters[i];
            }
            length = other.length;
        }

        boolean has(int place) {
            return place >= 0 && place < length;
        }

        void add(int sort, int letter) {
            if (length >= 0 && length < sorts.length && length < letters.length) {
                sorts[length] = sort;
                letters[length] = letter;
                length++;
            }
        }

        void replaceAt(int place, int sort) {
            if (place >= 0 && place < length && place < sorts.length) {
                sorts[place] = sort;
            }
        }

        void clear() {
            length = 0;
        }

        int sortAt(int place) {
            return place >= 0 && place < length && place < sorts.length ? sorts[place] : NONE;
        }

        int letterAt(int place) {
            return place >= 0 && place < length && place < letters.length ? letters[place] : NONE;
        }

        boolean isWrongAt(int place) {
            return sortAt(place) != letterAt(place);
        }

        int errors() {
            int found = 0;
            for (int place = 0; place < length; place++) {
                if (isWrongAt(place)) {
                    found++;
                }
            }
            return found;
        }

        int countOf(int sort) {
            int found = 0;
            for (int place = 0; place < length; place++) {
                if (sortAt(place) == sort) {
                    found++;
                }
            }
            return found;
        }

        /** The types with a gap behind each, also behind the last one: where a next type would begin. */
        int nextPosition() {
            int position = 0;
            for (int place = 0; place < length; place++) {
                position += widthOf(sortAt(place)) + 1;
            }
            return position;
        }

        int width() {
            return length > 0 ? nextPosition() - 1 : 0;
        }

        int characterAt(int index) {
            int position = 0;
            for (int place = 0; place < length; place++) {
                if (position == index) {
                    return 'a' + sortAt(place);
                }
                position++;
                if (isWrongAt(place)) {
                    if (position == index) {
                        return '!';
                    }
                    position++;
                }
            }
            return NONE;
        }
    }

    /** All that undo and the snapshot bring back. */
    private static final class State {
        private final Boxes boxes = new Boxes();
        private final Line line = new Line();
        private final int[] settings = {60, 1, 1};
        private int hand = NONE;
        private int lettersSet = 0;
        private int typesMoved = 0;
        private int beatsPassed = 0;
        private int corrections = 0;
        private int linesReturned = 0;
        private int stopPart = NONE;
        private int stopReason = NONE;

        void copyFrom(State other) {
            boxes.copyFrom(other.boxes);
            line.copyFrom(other.line);
            for (int i = 0; i < settings.length && i < other.settings.length; i++) {
                settings[i] = other.settings[i];
            }
            hand = other.hand;
            lettersSet = other.lettersSet;
            typesMoved = other.typesMoved;
            beatsPassed = other.beatsPassed;
            corrections = other.corrections;
            linesReturned = other.linesReturned;
            stopPart = other.stopPart;
            stopReason = other.stopReason;
        }

        int settingAt(int setting) {
            return setting >= 0 && setting < settings.length ? settings[setting] : NONE;
        }

        int changeSetting(int setting, int value) {
            int previous = settingAt(setting);
            hand = NONE;
            if (setting >= 0 && setting < settings.length) {
                settings[setting] = value;
            }
            return previous;
        }

        int whyNotSet(int letter) {
            int sort = boxes.typeAt(letter, 0);
            if (sort == NONE) {
                return BOX_IS_EMPTY;
            }
            int width = line.nextPosition() + widthOf(sort);
            return width > settingAt(MEASURE) ? LINE_TOO_WIDE : CAN_BE_DONE;
        }

        int setLetter(int letter) {
            int sort = boxes.typeAt(letter, 0);
            boxes.dropUpmost(letter);
            line.add(sort, letter);
            lettersSet++;
            hand = letter;
            passBeats(settingAt(BEATS_BEHIND_A_LETTER));
            return sort;
        }

        /** The beats behind the letters change nothing here: they leave the box alone in which the hand is. */
        int errorsIfSet(int letter, int times) {
            int position = line.nextPosition();
            int errors = 0;
            for (int deep = 0; deep < times; deep++) {
                int sort = boxes.typeAt(letter, deep);
                if (sort == NONE || position + widthOf(sort) > settingAt(MEASURE)) {
                    return errors;
                }
                position += widthOf(sort) + 1;
                if (sort != letter) {
                    errors++;
                }
            }
            return errors;
        }

        int rest(int beats) {
            hand = NONE;
            return passBeats(beats);
        }

        private int passBeats(int beats) {
            int moves = 0;
            for (int i = 0; i < beats; i++) {
                if (boxes.sortInOneBeat(hand)) {
                    moves++;
                }
                beatsPassed++;
            }
            typesMoved += moves;
            return moves;
        }

        /** The box to which the type of a place goes, when it is put back. */
        private int boxBehind(int place) {
            return settingAt(BACK_BY_THE_TEXT) == 1 ? line.letterAt(place) : line.sortAt(place);
        }

        int whyNotCorrect(int place) {
            if (!line.isWrongAt(place)) {
                return NO_ERROR_THERE;
            }
            if (boxes.depthOfRight(line.letterAt(place)) == NONE) {
                return NO_RIGHT_TYPE;
            }
            return boxes.hasRoom(boxBehind(place)) ? CAN_BE_DONE : BOX_IS_FULL;
        }

        void correct(int place) {
            int letter = line.letterAt(place);
            boxes.put(boxBehind(place), line.sortAt(place));
            boxes.dropAt(letter, boxes.depthOfRight(letter));
            line.replaceAt(place, letter);
            corrections++;
            hand = NONE;
        }

        int whyNotReturn() {
            for (int box = 0; box < SORTS; box++) {
                int height = boxes.heightOf(box);
                for (int place = 0; place < line.length; place++) {
                    if (boxBehind(place) == box) {
                        height++;
                    }
                }
                if (height > ROOM_OF_A_BOX) {
                    return BOX_WOULD_OVERFLOW;
                }
            }
            return CAN_BE_DONE;
        }

        void returnLine() {
            for (int place = line.length - 1; place >= 0; place--) {
                boxes.put(boxBehind(place), line.sortAt(place));
            }
            line.clear();
            linesReturned++;
            hand = NONE;
        }

        void exchange(int box, int other) {
            boxes.exchangeUpmost(box, other);
            hand = NONE;
        }

        /** How many types lie wrong, told without a look at the boxes in which they lie. */
        int wrongBySorts() {
            int found = 0;
            for (int sort = 0; sort < SORTS; sort++) {
                found += TYPES_OF_A_SORT - boxes.countIn(sort, sort) - line.countOf(sort);
            }
            return found;
        }
    }

    /** The saved states, in a ring: the oldest one is overwritten first. */
    private static final class History {
        private final State[] ring = new State[MOST_SAVED_STATES];
        private int next = 0;
        private int size = 0;

        History() {
            for (int i = 0; i < ring.length; i++) {
                ring[i] = new State();
            }
        }

        void save(State state) {
            if (next < 0 || next >= ring.length || ring[next] == null) {
                return;
            }
            ring[next].copyFrom(state);
            next = next + 1 < ring.length ? next + 1 : 0;
            size = size < ring.length ? size + 1 : ring.length;
        }

        void giveBack(State state) {
            int latest = next > 0 ? next - 1 : ring.length - 1;
            if (size <= 0 || latest < 0 || latest >= ring.length || ring[latest] == null) {
                return;
            }
            state.copyFrom(ring[latest]);
            next = latest;
            size--;
        }
    }

    /** A kind of part: its word, and the letters or the number that may stand behind it. */
    private enum PartKind {
        SET("set:", 5, BUFFER_SIZE, 0, NONE),
        FIX("fix", 4, 0, 0, 40),
        BACK("back", 4, 0, 0, NONE),
        IDLE("idle", 5, 0, 1, 99),
        SWAP("swap:", 7, 2, 0, NONE);

        private final String word;
        private final int shortest;
        private final int mostLetters;
        private final int lowestNumber;
        private final int highestNumber;

        PartKind(String word, int shortest, int mostLetters, int lowestNumber, int highestNumber) {
            this.word = word;
            this.shortest = shortest;
            this.mostLetters = mostLetters;
            this.lowestNumber = lowestNumber;
            this.highestNumber = highestNumber;
        }
    }

    /** The buffer, read as works as a text. */
    private static final class Text {
        private final int[] codes = new int[BUFFER_SIZE];
        private int length = 0;

        void add(int code) {
            if (length >= 0 && length < codes.length) {
                codes[length] = code;
                length++;
            }
        }

        void clear() {
            length = 0;
        }

        int codeAt(int index) {
            return index >= 0 && index < length && index < codes.length ? codes[index] : NONE;
        }

        /** The letter's number, which is no sort's if there stands something else. */
        int letterAt(int index) {
            return codeAt(index) - 'a';
        }

        boolean isPartEnd(int index) {
            return index == length || codeAt(index) == ';';
        }

        int numberIn(int from, int end) {
            int number = 0;
            for (int index = from; index < end; index++) {
                number = number * 10 + codeAt(index) - '0';
            }
            return number;
        }

        boolean isWhole() {
            int start = 0;
            for (int end = 0; end <= length; end++) {
                if (isPartEnd(end)) {
                    if (kindOf(start, end) == null) {
                        return false;
                    }
                    start = end + 1;
                }
            }
            return true;
        }

        int firstMisfit() {
            int start = 0;
            for (int end = 0; end < length; end++) {
                if (codeAt(end) == ';') {
                    // A part that is not whole lets no ";" follow, but an earlier character may misfit already.
                    if (kindOf(start, end) == null) {
                        return firstMisfitOfPart(start, end);
                    }
                    start = end + 1;
                }
            }
            return firstMisfitOfPart(start, length);
        }

        PartKind kindOf(int start, int end) {
            for (PartKind kind : PART_KINDS) {
                if (end - start >= kind.shortest && firstMisfitFor(kind, start, end) == end) {
                    return kind;
                }
            }
            return null;
        }

        /** What begins a part of any kind is fit: so the kind that goes on longest tells. */
        private int firstMisfitOfPart(int start, int end) {
            int furthest = start;
            for (PartKind kind : PART_KINDS) {
                furthest = Math.max(furthest, firstMisfitFor(kind, start, end));
            }
            return furthest;
        }

        private int firstMisfitFor(PartKind kind, int start, int end) {
            int wordLength = kind.word.length();
            for (int i = 0; i < wordLength; i++) {
                if (start + i >= end || codeAt(start + i) != kind.word.charAt(i)) {
                    return start + i;
                }
            }
            int from = start + wordLength;
            return kind.mostLetters > 0 ? firstNoLetter(kind, from, end) : firstNoDigit(kind, from, end);
        }

        private int firstNoLetter(PartKind kind, int from, int end) {
            for (int index = from; index < end; index++) {
                if (index - from >= kind.mostLetters || !isSort(letterAt(index))) {
                    return index;
                }
            }
            return end;
        }

        private int firstNoDigit(PartKind kind, int from, int end) {
            int number = 0;
            for (int index = from; index < end; index++) {
                int digit = codeAt(index) - '0';
                boolean leadingZero = index > from && number == 0;
                if (digit < 0 || digit > 9 || leadingZero) {
                    return index;
                }
                number = number * 10 + digit;
                if (number < kind.lowestNumber || number > kind.highestNumber) {
                    return index;
                }
            }
            return end;
        }
    }
}
