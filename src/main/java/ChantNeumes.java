/**
 * Square chant from a text: syllables with groups of notes, their neumes, pitches and mode,
 * psalm tones fitted to verses, and the text written anew.
 */
public final class ChantNeumes {
    public static final int NONE = -100, UNKNOWN = -101, OUTSIDE = -102, STATE = -103, ROOM = -104;

    private static final int BYTES_ROOM = 1500;
    private static final int BYTES_OF_A_FEED = 20;

    private final Table tape;
    private final Table written;
    private final Score score;
    private final Reader reader;
    private final Psalm psalm;
    private int faultPlace;

    public ChantNeumes() {
        tape = new Table(BYTES_ROOM, 1);
        written = new Table(BYTES_ROOM, 1);
        score = new Score();
        reader = new Reader(score);
        psalm = new Psalm();
        faultPlace = NONE;
    }

    public int feed(int a, int b, int c, int d, int e) {
        if (tape.size() + BYTES_OF_A_FEED > BYTES_ROOM) {
            return ROOM;
        }
        feedNumber(a);
        feedNumber(b);
        feedNumber(c);
        feedNumber(d);
        feedNumber(e);
        return tape.size();
    }

    private void feedNumber(int number) {
        for (int shift = 24; shift >= 0; shift -= 8) {
            tape.add((number >>> shift) & 255);
        }
    }

    public int end(int n) {
        if (n < 0 || n > tape.size()) {
            return OUTSIDE;
        }
        tape.keep(n);
        return n;
    }

    public int read() {
        int fault = reader.readFrom(tape);
        tape.keep(0);
        if (fault != Reader.NO_FAULT) {
            faultPlace = reader.placeOfFault();
            return -10 - fault;
        }
        faultPlace = NONE;
        return score.notes.size();
    }

    public int place() {
        return faultPlace;
    }

    public int syllable(int i, int what) {
        return score.syllables.ask(i, what, Score.SYLLABLE_ANSWERS);
    }

    public int note(int i, int what) {
        return score.notes.ask(i, what, Score.NOTE_ANSWERS);
    }

    public int neume(int i, int what) {
        return score.neumes.ask(i, what, Score.NEUME_ANSWERS);
    }

    public int bar(int i, int what) {
        return score.bars.ask(i, what, Score.BAR_ANSWERS);
    }

    public int guide(int i) {
        return score.ends.has(i) ? score.guideOf(i) : UNKNOWN;
    }

    public int mode(int what) {
        if (what < 0 || what > 4) {
            return OUTSIDE;
        }
        if (score.notes.size() == 0) {
            return STATE;
        }
        switch (what) {
            case 0:
                return score.modeNumber();
            case 1:
                return score.finalStep();
            case 2:
                return score.tenorStep();
            case 3:
                return score.lowestStep();
            default:
                return score.highestStep();
        }
    }

    public int tone(int t) {
        return psalm.changeTone(t);
    }

    public int point(int half, boolean accent) {
        return psalm.addSyllable(half, accent);
    }

    public int fresh() {
        return psalm.forgetVerse();
    }

    public int half(int half, int what) {
        if (!Psalm.isHalf(half) || what < 0 || what > 3) {
            return OUTSIDE;
        }
        Fitting fitting = psalm.fitted(half);
        switch (what) {
            case 0:
                return fitting.steps.size();
            case 1:
                return fitting.isShort ? 1 : 0;
            case 2:
                return fitting.firstAccent;
            default:
                return fitting.lastAccent;
        }
    }

    public int sung(int half, int k, int what) {
        if (!Psalm.isHalf(half) || what < 0 || what > 1) {
            return OUTSIDE;
        }
        Table steps = psalm.fitted(half).steps;
        return steps.has(k) ? steps.get(k, what) : NONE;
    }

    public int write() {
        Writer.writeScore(score, written);
        return written.size();
    }

    public int at(int i) {
        return written.has(i) ? written.get(i, 0) : NONE;
    }

    public int count(int what) {
        switch (what) {
            case 0:
                return score.syllables.size();
            case 1:
                return score.notes.size();
            case 2:
                return score.groups;
            case 3:
                return score.neumes.size();
            case 4:
                return score.bars.size();
            case 5:
                return score.ends.size();
            case 6:
                return score.words;
            case 7:
                return tape.size();
            case 8:
                return score.syllablesWithoutNotes();
            default:
                return OUTSIDE;
        }
    }

    /**
     * Rows of numbers in a room that is made once. All indices are looked at here, so that no
     * other class has to: a cell that is not there reads as 0 and is not changed.
     */
    private static final class Table {
        private final int room;
        private final int columns;
        private final int[] cells;
        private int rows;

        Table(int room, int columns) {
            this.room = Math.max(room, 0);
            this.columns = Math.max(columns, 1);
            this.cells = new int[this.room * this.columns];
            this.rows = 0;
        }

        int size() {
            return rows;
        }

        boolean isFull() {
            return rows >= room;
        }

        boolean has(int row) {
            return row >= 0 && row < rows;
        }

        void keep(int count) {
            if (count >= 0 && count < rows) {
                rows = count;
            }
        }

        /** The new row's other columns are cleared: the room is used again for every text. */
        int add(int first) {
            int start = rows * columns;
            if (rows >= room || start < 0 || start + columns > cells.length) {
                return NONE;
            }
            cells[start] = first;
            for (int column = 1; column < columns; column++) {
                cells[start + column] = 0;
            }
            rows++;
            return rows - 1;
        }

        int get(int row, int column) {
            if (row < 0 || row >= rows || column < 0 || column >= columns) {
                return 0;
            }
            int cell = row * columns + column;
            return cell < cells.length ? cells[cell] : 0;
        }

        void set(int row, int column, int value) {
            if (row < 0 || row >= rows || column < 0 || column >= columns) {
                return;
            }
            int cell = row * columns + column;
            if (cell < cells.length) {
                cells[cell] = value;
            }
        }

        /** What a public call answers of a row; the columns behind the answers are our own. */
        int ask(int row, int column, int answers) {
            if (row < 0 || row >= rows) {
                return UNKNOWN;
            }
            if (column < 0 || column >= answers) {
                return OUTSIDE;
            }
            return get(row, column);
        }
    }

    /** A text that has been read. The first columns stand in the order in which calls ask for them. */
    private static final class Score {
        static final int WORD = 0, LETTERS = 1, ACCENT = 2, BRACKETS = 3, NOTES = 4, FIRST_NOTE = 5;
        static final int FIRST_LETTER = 6, FIRST_SIGN = 7, SIGNS = 8;
        static final int SYLLABLE_ANSWERS = 6, SYLLABLE_COLUMNS = 9;

        static final int HEIGHT = 0, MARKS = 1, SYLLABLE = 2, GROUP = 3, NEUME = 4, STEP = 5;
        static final int SEMITONES = 6, LENGTH = 7;
        static final int NOTE_ANSWERS = 8;

        static final int NEUME_KIND = 0, NEUME_FIRST = 1, NEUME_NOTES = 2, NEUME_LIQUID = 3;
        static final int NEUME_ANSWERS = 4;

        static final int BAR_KIND = 0, BAR_BEFORE = 1;
        static final int BAR_ANSWERS = 2;

        static final int END_NEXT_NOTE = 0, END_ZERO = 1;

        static final int SIGN_KIND = 0, SIGN_VALUE = 1;
        static final int NOTE_SIGN = 0, FLAT_SIGN = 1, NATURAL_SIGN = 2, CLEF_SIGN = 3;
        static final int BAR_SIGN = 4, END_SIGN = 5, SIGN_KINDS = 6;

        static final int DOT = 1, LINE = 2, V_MARK = 4, W_MARK = 8, LIQUID = 16;

        static final int SYLLABLE_ROOM = 60, NOTE_ROOM = 150, BAR_ROOM = 30, OTHER_ROOM = 20;
        static final int SIGN_ROOM = NOTE_ROOM + BAR_ROOM + 4 * OTHER_ROOM;

        static final int HIGHEST_HEIGHT = 12;
        static final int STEPS_OF_AN_OCTAVE = 7;

        private static final int[] TENORS = {4, 2, 5, 3, 4, 2, 4, 3};

        final Table letters = new Table(BYTES_ROOM, 1);
        final Table syllables = new Table(SYLLABLE_ROOM, SYLLABLE_COLUMNS);
        final Table notes = new Table(NOTE_ROOM, NOTE_ANSWERS);
        final Table neumes = new Table(NOTE_ROOM, NEUME_ANSWERS);
        final Table bars = new Table(BAR_ROOM, BAR_ANSWERS);
        final Table ends = new Table(OTHER_ROOM, 2);
        final Table signs = new Table(SIGN_ROOM, 2);
        int words = 0;
        int groups = 0;

        void clear() {
            letters.keep(0);
            syllables.keep(0);
            notes.keep(0);
            neumes.keep(0);
            bars.keep(0);
            ends.keep(0);
            signs.keep(0);
            words = 0;
            groups = 0;
        }

        int syllablesWithoutNotes() {
            int without = 0;
            for (int s = 0; s < syllables.size(); s++) {
                if (syllables.get(s, NOTES) == 0) {
                    without++;
                }
            }
            return without;
        }

        boolean sameGroup(int note, int other) {
            return notes.has(note) && notes.has(other)
                    && notes.get(note, GROUP) == notes.get(other, GROUP);
        }

        boolean hasMark(int note, int mark) {
            return (notes.get(note, MARKS) & mark) != 0;
        }

        int guideOf(int lineEnd) {
            int next = ends.get(lineEnd, END_NEXT_NOTE);
            if (!notes.has(next)) {
                return NONE;
            }
            int height = notes.get(next, STEP) + ends.get(lineEnd, END_ZERO);
            return height < 0 || height > HIGHEST_HEIGHT ? NONE : height;
        }

        int finalStep() {
            return notes.get(notes.size() - 1, STEP);
        }

        int lowestStep() {
            int lowest = finalStep();
            for (int n = 0; n < notes.size(); n++) {
                lowest = Math.min(lowest, notes.get(n, STEP));
            }
            return lowest;
        }

        int highestStep() {
            int highest = finalStep();
            for (int n = 0; n < notes.size(); n++) {
                highest = Math.max(highest, notes.get(n, STEP));
            }
            return highest;
        }

        int modeNumber() {
            int degree = Math.floorMod(finalStep(), STEPS_OF_AN_OCTAVE);
            if (degree < 1 || degree > 4) {
                return 0;
            }
            int authentic = 2 * degree - 1;
            boolean plagal = finalStep() - lowestStep() >= 3 && highestStep() - finalStep() <= 5;
            return plagal ? authentic + 1 : authentic;
        }

        int tenorStep() {
            int mode = modeNumber();
            if (mode < 1 || mode > TENORS.length) {
                return NONE;
            }
            return finalStep() + TENORS[mode - 1];
        }
    }

    /** Reads a text byte by byte into a score; stops at the first fault. */
    private static final class Reader {
        static final int NO_FAULT = 0;
        private static final int STRANGE = 1, TOO_MANY = 2, TWICE = 3;
        private static final int TEXT_END = -1;
        private static final int HEIGHT_OF_C = 2, HEIGHT_OF_F = 5;
        private static final int ZERO_OF_C4 = 9;
        private static final int COLON = 3, DOUBLE_COLON = 4;

        private static final int[] SCALE = {0, 2, 4, 5, 7, 9, 11};

        private final Score score;
        private final Table signsOfKind;
        private int fault;
        private int place;
        private int next;
        /** The height at which STEP 0 stands by the clef that holds now. */
        private int zero;
        /** A bit for each height that is flat now. */
        private int flats;
        private boolean inBrackets;
        private boolean inSyllable;
        private boolean inWord;
        private boolean inGroup;
        private boolean behindNote;

        Reader(Score score) {
            this.score = score;
            this.signsOfKind = new Table(Score.SIGN_KINDS, 1);
        }

        int placeOfFault() {
            return place;
        }

        int readFrom(Table tape) {
            start();
            int length = tape.size();
            for (int p = 0; p < length && fault == NO_FAULT; p++) {
                if (p >= next) {
                    next = p + 1;
                    int behind = next < length ? tape.get(next, 0) : TEXT_END;
                    if (inBrackets) {
                        takeInside(p, tape.get(p, 0), behind);
                    } else {
                        takeOutside(p, tape.get(p, 0));
                    }
                }
            }
            if (inBrackets && fault == NO_FAULT) {
                refuse(STRANGE, length);
            }
            if (fault == NO_FAULT) {
                Shaper.shape(score);
            } else {
                score.clear();
            }
            return fault;
        }

        private void start() {
            score.clear();
            fault = NO_FAULT;
            place = NONE;
            next = 0;
            zero = ZERO_OF_C4;
            inBrackets = false;
            inSyllable = false;
            inWord = false;
            inGroup = false;
            behindNote = false;
            flats = 0;
            signsOfKind.keep(0);
            for (int kind = 0; kind < Score.SIGN_KINDS; kind++) {
                signsOfKind.add(0);
            }
        }

        private void refuse(int why, int where) {
            fault = why;
            place = where;
        }

        private void takeOutside(int p, int b) {
            if (isBlank(b)) {
                inSyllable = false;
                inWord = false;
                flats = 0;
                return;
            }
            if (b != '(' && !isLetter(b)) {
                refuse(STRANGE, p);
                return;
            }
            if (!inSyllable && !beginSyllable(p)) {
                return;
            }
            int syllable = score.syllables.size() - 1;
            if (b == '(') {
                inBrackets = true;
                score.syllables.set(syllable, Score.BRACKETS, 1);
                return;
            }
            score.letters.add(b);
            int lettersBefore = score.syllables.get(syllable, Score.LETTERS);
            score.syllables.set(syllable, Score.LETTERS, lettersBefore + 1);
            if (b == '\'') {
                score.syllables.set(syllable, Score.ACCENT, 1);
            }
        }

        private boolean beginSyllable(int p) {
            if (score.syllables.isFull()) {
                refuse(TOO_MANY, p);
                return false;
            }
            if (!inWord) {
                inWord = true;
                score.words++;
            }
            inSyllable = true;
            int syllable = score.syllables.add(score.words - 1);
            score.syllables.set(syllable, Score.FIRST_NOTE, NONE);
            score.syllables.set(syllable, Score.FIRST_LETTER, score.letters.size());
            score.syllables.set(syllable, Score.FIRST_SIGN, score.signs.size());
            return true;
        }

        private void endSyllable() {
            inBrackets = false;
            inSyllable = false;
            int syllable = score.syllables.size() - 1;
            int signs = score.signs.size() - score.syllables.get(syllable, Score.FIRST_SIGN);
            score.syllables.set(syllable, Score.SIGNS, signs);
        }

        private void takeInside(int p, int b, int behind) {
            int mark = markOf(b);
            if (mark != 0) {
                takeMark(p, mark);
                return;
            }
            behindNote = false;
            if (b >= 'a' && b <= 'm') {
                takeHeight(p, b - 'a', behind);
                return;
            }
            inGroup = false;
            switch (b) {
                case ' ':
                case '\n':
                case '/':
                    break;
                case ')':
                    endSyllable();
                    break;
                case ',':
                    takeBar(p, 1);
                    break;
                case ';':
                    takeBar(p, 2);
                    break;
                case ':':
                    takeBar(p, behind == ':' ? DOUBLE_COLON : COLON);
                    break;
                case 'z':
                    takeLineEnd(p);
                    break;
                default:
                    refuse(STRANGE, p);
            }
        }

        private void takeMark(int p, int mark) {
            int last = score.notes.size() - 1;
            if (!behindNote) {
                refuse(STRANGE, p);
            } else if (score.hasMark(last, mark)) {
                refuse(TWICE, p);
            } else {
                score.notes.set(last, Score.MARKS, score.notes.get(last, Score.MARKS) + mark);
            }
        }

        private void takeHeight(int p, int height, int behind) {
            boolean clefLetter = height == HEIGHT_OF_C || height == HEIGHT_OF_F;
            if (behind == 'x') {
                takeAccidental(p, Score.FLAT_SIGN, height);
            } else if (behind == 'y') {
                takeAccidental(p, Score.NATURAL_SIGN, height);
            } else if (clefLetter && behind >= '1' && behind <= '4') {
                takeClef(p, height, behind - '0');
            } else {
                takeNote(p, height);
            }
        }

        private void takeAccidental(int p, int kind, int height) {
            next = p + 2;
            if (addSign(p, kind, height)) {
                int bit = 1 << height;
                flats = kind == Score.FLAT_SIGN ? flats | bit : flats & ~bit;
            }
        }

        private void takeClef(int p, int letterHeight, int line) {
            next = p + 2;
            inGroup = false;
            boolean isF = letterHeight == HEIGHT_OF_F;
            if (addSign(p, Score.CLEF_SIGN, isF ? line + 4 : line)) {
                zero = 2 * line + 1 + (isF ? 4 : 0);
                flats = 0;
            }
        }

        private void takeNote(int p, int height) {
            if (!addSign(p, Score.NOTE_SIGN, score.notes.size())) {
                return;
            }
            if (!inGroup) {
                inGroup = true;
                score.groups++;
            }
            behindNote = true;
            int step = height - zero;
            int syllable = score.syllables.size() - 1;
            int note = score.notes.add(height);
            score.notes.set(note, Score.SYLLABLE, syllable);
            score.notes.set(note, Score.GROUP, score.groups - 1);
            score.notes.set(note, Score.STEP, step);
            score.notes.set(note, Score.SEMITONES, semitonesOf(step) - (flats >> height & 1));
            int notesBefore = score.syllables.get(syllable, Score.NOTES);
            if (notesBefore == 0) {
                score.syllables.set(syllable, Score.FIRST_NOTE, note);
            }
            score.syllables.set(syllable, Score.NOTES, notesBefore + 1);
        }

        private void takeBar(int p, int kind) {
            if (kind == DOUBLE_COLON) {
                next = p + 2;
            }
            if (addSign(p, Score.BAR_SIGN, kind)) {
                int bar = score.bars.add(kind);
                score.bars.set(bar, Score.BAR_BEFORE, score.notes.size());
                flats = 0;
            }
        }

        private void takeLineEnd(int p) {
            if (addSign(p, Score.END_SIGN, 0)) {
                int lineEnd = score.ends.add(score.notes.size());
                score.ends.set(lineEnd, Score.END_ZERO, zero);
            }
        }

        private boolean addSign(int p, int kind, int value) {
            int made = signsOfKind.get(kind, 0);
            if (made >= roomOf(kind)) {
                refuse(TOO_MANY, p);
                return false;
            }
            signsOfKind.set(kind, 0, made + 1);
            score.signs.set(score.signs.add(kind), Score.SIGN_VALUE, value);
            return true;
        }

        private static int roomOf(int kind) {
            switch (kind) {
                case Score.NOTE_SIGN:
                    return Score.NOTE_ROOM;
                case Score.BAR_SIGN:
                    return Score.BAR_ROOM;
                default:
                    return Score.OTHER_ROOM;
            }
        }

        private static int semitonesOf(int step) {
            int degree = Math.floorMod(step, Score.STEPS_OF_AN_OCTAVE);
            int octave = Math.floorDiv(step, Score.STEPS_OF_AN_OCTAVE);
            int inScale = degree >= 0 && degree < SCALE.length ? SCALE[degree] : 0;
            return 12 * octave + inScale;
        }

        private static boolean isBlank(int b) {
            return b == ' ' || b == '\n';
        }

        private static boolean isLetter(int b) {
            return b >= 'a' && b <= 'z' || b >= 'A' && b <= 'Z' || b == '\'';
        }

        private static int markOf(int b) {
            switch (b) {
                case '.':
                    return Score.DOT;
                case '_':
                    return Score.LINE;
                case 'v':
                    return Score.V_MARK;
                case 'w':
                    return Score.W_MARK;
                case '~':
                    return Score.LIQUID;
                default:
                    return 0;
            }
        }
    }

    /** Lengths and neumes, which hang on notes that come later: made when all have been read. */
    private static final class Shaper {
        private static final int UP = 1, DOWN = 2, STAY = 3;
        private static final int SINGLE = 1, SINGLE_WITH_V = 2, FIRST_WITH_WAYS = 3;
        private static final int LONGEST_WAYS = 4;

        /** The ways of the neumes from 3 on, a digit for each way, as UP, DOWN and STAY tell. */
        private static final int[] WAYS = {
            1, 2, 3, 11, 22, 12, 21, 33, 121, 212, 112, 221, 122, 1122, 2211
        };

        static void shape(Score score) {
            int behindNeume = 0;
            for (int n = 0; n < score.notes.size(); n++) {
                if (n == behindNeume) {
                    behindNeume = n + beginNeume(score, n);
                }
                score.notes.set(n, Score.NEUME, score.neumes.size() - 1);
                score.notes.set(n, Score.LENGTH, lengthOf(score, n));
            }
        }

        /** How many notes the neume takes. */
        private static int beginNeume(Score score, int first) {
            int kind = score.hasMark(first, Score.V_MARK) ? SINGLE_WITH_V : SINGLE;
            int taken = 1;
            int ways = 0;
            for (int k = 1; k <= LONGEST_WAYS && score.sameGroup(first, first + k); k++) {
                ways = 10 * ways + wayTo(score, first + k);
                int found = kindOf(ways);
                if (found != NONE) {
                    kind = found;
                    taken = k + 1;
                }
            }
            int neume = score.neumes.add(kind);
            score.neumes.set(neume, Score.NEUME_FIRST, first);
            score.neumes.set(neume, Score.NEUME_NOTES, taken);
            boolean liquid = score.hasMark(first + taken - 1, Score.LIQUID);
            score.neumes.set(neume, Score.NEUME_LIQUID, liquid ? 1 : 0);
            return taken;
        }

        private static int wayTo(Score score, int note) {
            int before = score.notes.get(note - 1, Score.HEIGHT);
            int height = score.notes.get(note, Score.HEIGHT);
            if (height == before) {
                return STAY;
            }
            return height > before ? UP : DOWN;
        }

        private static int kindOf(int ways) {
            for (int i = 0; i < WAYS.length; i++) {
                if (WAYS[i] == ways) {
                    return i + FIRST_WITH_WAYS;
                }
            }
            return NONE;
        }

        private static int lengthOf(Score score, int note) {
            int length = 2;
            if (score.hasMark(note, Score.DOT)) {
                length += 2;
            }
            if (score.hasMark(note, Score.LINE)) {
                length++;
            }
            if (score.sameGroup(note, note + 1) && score.hasMark(note + 1, Score.W_MARK)) {
                length++;
            }
            if (score.hasMark(note, Score.LIQUID)) {
                length--;
            }
            return length;
        }
    }

    /** A verse in two halves and the tone that it is sung to. */
    private static final class Psalm {
        private static final int SYLLABLES_OF_A_HALF = 40;

        private final Table firstHalf = new Table(SYLLABLES_OF_A_HALF, 1);
        private final Table secondHalf = new Table(SYLLABLES_OF_A_HALF, 1);
        private final Fitting fitting = new Fitting(SYLLABLES_OF_A_HALF);
        private int toneNumber = 1;

        static boolean isHalf(int half) {
            return half == 0 || half == 1;
        }

        int changeTone(int t) {
            if (t < 1 || t > Tones.COUNT) {
                return OUTSIDE;
            }
            int before = toneNumber;
            toneNumber = t;
            return before;
        }

        int addSyllable(int half, boolean accent) {
            if (!isHalf(half)) {
                return OUTSIDE;
            }
            Table accents = accentsOf(half);
            if (accents.isFull()) {
                return ROOM;
            }
            accents.add(accent ? 1 : 0);
            return accents.size();
        }

        int forgetVerse() {
            int had = firstHalf.size() + secondHalf.size();
            firstHalf.keep(0);
            secondHalf.keep(0);
            return had;
        }

        Fitting fitted(int half) {
            fitting.fit(accentsOf(half), toneNumber, half);
            return fitting;
        }

        private Table accentsOf(int half) {
            return half == 0 ? firstHalf : secondHalf;
        }
    }

    /** The document's table of tones: a row has the opening, then the closes of both halves. */
    private static final class Tones {
        static final int COUNT = 8;
        static final int OPENING_STEPS = 2;
        static final int PREPARING_COUNT = 0, PREPARING = 1, ACCENTS = 3;
        static final int FIRST_UP = 4, FIRST_ON = 5, LAST_UP = 6, LAST_ON = 7, LAST = 8;
        private static final int CLOSE_CELLS = 9;
        private static final int ROW_CELLS = OPENING_STEPS + 2 * CLOSE_CELLS;

        /** A close with one accent has it as its last; the cells of its first are not used. */
        private static final int[] CELLS = {
            -2, -1,   0, 0, 0,   2, 1, 0, -1, -1, 0,   2, -1, -2, 1, 0, 0, -1, -1, -3,
            -2, 0,    0, 0, 0,   1, 0, 0, 1, 0, 0,     1, -1, 0, 1, 0, 0, -2, -2, -2,
            -4, -1,   0, 0, 0,   2, 1, 0, -1, -1, 0,   1, 0, 0, 1, 0, 0, -2, -2, -1,
            -1, -2,   2, -1, 0,  1, 0, 0, 1, 0, 0,     0, 0, 0, 2, -1, 0, 1, -1, -2,
            -4, -2,   0, 0, 0,   1, 0, 0, 1, 0, 0,     0, 0, 0, 2, 1, 1, -1, -1, -2,
            -2, -1,   0, 0, 0,   2, 1, 0, -1, -1, 0,   2, -2, -1, 1, 0, 0, -1, -1, -2,
            -1, -2,   0, 0, 0,   2, 2, 1, -1, -1, 0,   0, 0, 0, 2, 1, 0, -1, -1, -2,
            -3, -2,   0, 0, 0,   1, 0, 0, 1, 0, 0,     2, 0, -1, 1, 0, 0, 1, 1, -3
        };

        static int cell(int tone, int i) {
            int index = (tone - 1) * ROW_CELLS + i;
            return index >= 0 && index < CELLS.length ? CELLS[index] : 0;
        }

        static int closeStart(int half) {
            return OPENING_STEPS + half * CLOSE_CELLS;
        }
    }

    /** A half of a verse fitted to a tone; its rows are used again for every fitting. */
    private static final class Fitting {
        /** Rows of SYLLABLE and STEP, as sung() asks for them. */
        final Table steps;
        boolean isShort;
        int firstAccent;
        int lastAccent;
        private int tone;
        private int half;
        private int openingSteps;
        private int preparingSteps;

        Fitting(int syllables) {
            // The last syllable may get two steps.
            steps = new Table(syllables + 1, 2);
        }

        void fit(Table accents, int tone, int half) {
            this.tone = tone;
            this.half = half;
            steps.keep(0);
            isShort = true;
            firstAccent = NONE;
            lastAccent = NONE;
            int syllables = accents.size();
            if (syllables > 0) {
                placeAccents(accents);
                chooseForm();
                for (int s = 0; s < syllables; s++) {
                    singSyllable(s, s == syllables - 1);
                }
            }
        }

        private void placeAccents(Table accents) {
            int syllables = accents.size();
            lastAccent = accentBefore(accents, syllables);
            if (lastAccent == NONE) {
                lastAccent = Math.max(syllables - 2, 0);
            }
            if (closeCell(Tones.ACCENTS) == 2) {
                firstAccent = accentBefore(accents, lastAccent);
                if (firstAccent == NONE && lastAccent >= 2) {
                    firstAccent = lastAccent - 2;
                }
            }
        }

        private static int accentBefore(Table accents, int bound) {
            for (int s = bound - 1; s >= 0; s--) {
                if (accents.get(s, 0) == 1) {
                    return s;
                }
            }
            return NONE;
        }

        private void chooseForm() {
            openingSteps = half == 0 ? Tones.OPENING_STEPS : 0;
            preparingSteps = closeCell(Tones.PREPARING_COUNT);
            boolean firstMissing = closeCell(Tones.ACCENTS) == 2 && firstAccent == NONE;
            isShort = firstMissing || firstPlaced() < openingSteps + preparingSteps + 1;
            if (isShort) {
                firstAccent = NONE;
                openingSteps = 0;
                preparingSteps = 0;
            }
        }

        private int firstPlaced() {
            return firstAccent == NONE ? lastAccent : firstAccent;
        }

        private void singSyllable(int s, boolean isLast) {
            if (!isLast || s == lastAccent) {
                addStep(s, stepOf(s));
            }
            if (isLast) {
                addStep(s, closeCell(Tones.LAST));
            }
        }

        private int stepOf(int s) {
            if (s == lastAccent) {
                return closeCell(Tones.LAST_UP);
            }
            if (s > lastAccent) {
                return closeCell(Tones.LAST_ON);
            }
            int start = firstPlaced();
            if (s == start) {
                return closeCell(Tones.FIRST_UP);
            }
            if (s > start) {
                return closeCell(Tones.FIRST_ON);
            }
            int prepared = s - (start - preparingSteps);
            if (prepared >= 0) {
                return closeCell(Tones.PREPARING + prepared);
            }
            return s < openingSteps ? Tones.cell(tone, s) : 0;
        }

        private int closeCell(int i) {
            return Tones.cell(tone, Tones.closeStart(half) + i);
        }

        private void addStep(int s, int amount) {
            steps.set(steps.add(s), 1, amount);
        }
    }

    /** Writes a score as the document's WRITTEN text; it is never longer than what was read. */
    private static final class Writer {
        private static final int COLON_BAR = 3;

        static void writeScore(Score score, Table out) {
            out.keep(0);
            for (int s = 0; s < score.syllables.size(); s++) {
                int word = score.syllables.get(s, Score.WORD);
                if (s > 0 && score.syllables.get(s - 1, Score.WORD) != word) {
                    out.add(' ');
                }
                writeLetters(score, s, out);
                if (score.syllables.get(s, Score.BRACKETS) == 1) {
                    out.add('(');
                    writeSigns(score, s, out);
                    out.add(')');
                }
            }
        }

        private static void writeLetters(Score score, int syllable, Table out) {
            int first = score.syllables.get(syllable, Score.FIRST_LETTER);
            int behind = first + score.syllables.get(syllable, Score.LETTERS);
            for (int i = first; i < behind; i++) {
                out.add(score.letters.get(i, 0));
            }
        }

        private static void writeSigns(Score score, int syllable, Table out) {
            int first = score.syllables.get(syllable, Score.FIRST_SIGN);
            int behind = first + score.syllables.get(syllable, Score.SIGNS);
            for (int i = first; i < behind; i++) {
                writeSign(score, i, out);
                if (needsSlash(score, i, behind)) {
                    out.add('/');
                }
            }
        }

        private static void writeSign(Score score, int sign, Table out) {
            int value = score.signs.get(sign, Score.SIGN_VALUE);
            switch (score.signs.get(sign, Score.SIGN_KIND)) {
                case Score.NOTE_SIGN:
                    out.add('a' + score.notes.get(value, Score.HEIGHT));
                    writeMarks(score.notes.get(value, Score.MARKS), out);
                    break;
                case Score.FLAT_SIGN:
                    out.add('a' + value);
                    out.add('x');
                    break;
                case Score.NATURAL_SIGN:
                    out.add('a' + value);
                    out.add('y');
                    break;
                case Score.CLEF_SIGN:
                    out.add(value > 4 ? 'f' : 'c');
                    out.add('0' + (value > 4 ? value - 4 : value));
                    break;
                case Score.BAR_SIGN:
                    writeBar(value, out);
                    break;
                default:
                    out.add('z');
            }
        }

        private static void writeMarks(int marks, Table out) {
            writeMark(marks & Score.DOT, '.', out);
            writeMark(marks & Score.LINE, '_', out);
            writeMark(marks & Score.V_MARK, 'v', out);
            writeMark(marks & Score.W_MARK, 'w', out);
            writeMark(marks & Score.LIQUID, '~', out);
        }

        private static void writeMark(int mark, char letter, Table out) {
            if (mark != 0) {
                out.add(letter);
            }
        }

        private static void writeBar(int kind, Table out) {
            switch (kind) {
                case 1:
                    out.add(',');
                    break;
                case 2:
                    out.add(';');
                    break;
                case COLON_BAR:
                    out.add(':');
                    break;
                default:
                    out.add(':');
                    out.add(':');
            }
        }

        private static boolean needsSlash(Score score, int sign, int behind) {
            int kind = score.signs.get(sign, Score.SIGN_KIND);
            if (kind == Score.NOTE_SIGN) {
                return groupFollows(score, sign, behind);
            }
            // Without it the two colons would be read as one bar.
            return kind == Score.BAR_SIGN
                    && score.signs.get(sign, Score.SIGN_VALUE) == COLON_BAR
                    && sign + 1 < behind
                    && score.signs.get(sign + 1, Score.SIGN_KIND) == Score.BAR_SIGN
                    && score.signs.get(sign + 1, Score.SIGN_VALUE) >= COLON_BAR;
        }

        /** Flats and naturals are looked over: they part no groups. */
        private static boolean groupFollows(Score score, int sign, int behind) {
            int note = score.signs.get(sign, Score.SIGN_VALUE);
            for (int i = sign + 1; i < behind; i++) {
                int kind = score.signs.get(i, Score.SIGN_KIND);
                if (kind == Score.NOTE_SIGN) {
                    return !score.sameGroup(note, score.signs.get(i, Score.SIGN_VALUE));
                }
                if (kind != Score.FLAT_SIGN && kind != Score.NATURAL_SIGN) {
                    return false;
                }
            }
            return false;
        }
    }
}
