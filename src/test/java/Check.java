/** What the tests share: calls with the answers that are due, and texts fed to an object. */
final class Check {
    static final int NONE = -100, UNKNOWN = -101, OUTSIDE = -102, STATE = -103, ROOM = -104;
    static final int MIN = Integer.MIN_VALUE, MAX = Integer.MAX_VALUE;

    /** How many bytes of one object's writing are asked for, so that its calls stay under 512. */
    private static final int WINDOW = 300;

    private static int wrong = 0;
    private static int asked = 0;
    private static int sentences = 0;
    private static String heading = "";

    private Check() {
    }

    /** The promise, and the words of the document or what follows from them, that the calls from here on hold. */
    static void promise(int number, String words) {
        sentences++;
        heading = "promise " + number + ", \"" + words + "\": ";
    }

    static void due(String call, int got, int want) {
        asked++;
        if (got != want) {
            wrong++;
            System.out.println(heading + call + " answered " + got + ", due is " + want);
        }
    }

    static void due(String call, String got, String want) {
        asked++;
        if (!got.equals(want)) {
            wrong++;
            System.out.println(heading + call + " answered \"" + got + "\", due is \"" + want + "\"");
        }
    }

    static void finish() {
        String of = sentences == 0 ? "" : sentences + " sentences, ";
        System.out.println(of + asked + " answers, " + wrong + " not as due");
        if (wrong != 0) {
            System.exit(1);
        }
    }

    /** Puts the text on the tape, behind nothing else. */
    static void feed(Chant x, String text) {
        x.end(0);
        for (int p = 0; p < text.length(); p += 20) {
            x.feed(four(text, p), four(text, p + 4), four(text, p + 8), four(text, p + 12), four(text, p + 16));
        }
        due("end() for \"" + text + "\"", x.end(text.length()), text.length());
    }

    private static int four(String text, int p) {
        int number = 0;
        for (int i = p; i < p + 4; i++) {
            number = number << 8 | (i < text.length() ? text.charAt(i) : ' ');
        }
        return number;
    }

    static int read(Chant x, String text) {
        feed(x, text);
        return x.read();
    }

    static void reads(Chant x, String text, int notes) {
        due("read() of \"" + text + "\"", read(x, text), notes);
        due("place() of \"" + text + "\"", x.place(), NONE);
    }

    /** The fault, its place, and that the text and the tape are nothing then. */
    static void faults(Chant x, String text, int fault, int place) {
        due("read() of \"" + text + "\"", read(x, text), -10 - fault);
        due("place() of \"" + text + "\"", x.place(), place);
        due("counts of \"" + text + "\"", row(9, x::count), "0 0 0 0 0 0 0 0 0");
    }

    /** A new object that has read a text without a fault. */
    static Chant of(String text) {
        Chant x = new Chant();
        int notes = read(x, text);
        if (notes < 0) {
            due("read() of \"" + text + "\", place " + x.place(), notes, 0);
        }
        return x;
    }

    /** What an object writes of its text. */
    static String written(Chant x) {
        return bytes(x, 0, x.write());
    }

    /** What a text is written as; a long one is asked for in parts, of an object each. */
    static String writtenOf(String text) {
        StringBuilder out = new StringBuilder();
        int length = 1;
        for (int from = 0; from < length; from += WINDOW) {
            Chant x = of(text);
            length = x.write();
            out.append(bytes(x, from, Math.min(length, from + WINDOW)));
        }
        return out.toString();
    }

    static String bytes(Chant x, int from, int behind) {
        StringBuilder out = new StringBuilder();
        for (int i = from; i < behind; i++) {
            out.append((char) x.at(i));
        }
        return out.toString();
    }

    interface Ask {
        int of(int i);
    }

    interface AskTwo {
        int of(int i, int what);
    }

    interface Call {
        int answer();
    }

    /** The answers for 0 to n - 1, with blanks between. */
    static String row(int n, Ask ask) {
        StringBuilder out = new StringBuilder();
        for (int i = 0; i < n; i++) {
            out.append(i == 0 ? "" : " ").append(ask.of(i));
        }
        return out.toString();
    }

    /** All that an object answers of its state: for small texts and verses, since each answer is a call. */
    static String state(Chant x) {
        StringBuilder out = new StringBuilder("place ").append(x.place());
        out.append(" counts ").append(row(9, x::count));
        out.append(" syllables ").append(rows(x.count(0), 6, x::syllable));
        out.append(" notes ").append(rows(x.count(1), 8, x::note));
        out.append(" neumes ").append(rows(x.count(3), 4, x::neume));
        out.append(" bars ").append(rows(x.count(4), 2, x::bar));
        out.append(" guides ").append(row(x.count(5), x::guide));
        out.append(" mode ").append(row(5, x::mode));
        for (int h = 0; h < 2; h++) {
            int half = h;
            out.append(" half ").append(row(4, what -> x.half(half, what)));
            out.append(" sung ").append(rows(x.half(half, 0), 2, (k, what) -> x.sung(half, k, what)));
        }
        int tone = x.tone(1);
        x.tone(tone);
        out.append(" tone ").append(tone).append(" written ");
        for (int i = 0, b = x.at(0); b != NONE && i < WINDOW; i++, b = x.at(i)) {
            out.append((char) b);
        }
        return out.toString();
    }

    private static String rows(int n, int columns, AskTwo ask) {
        StringBuilder out = new StringBuilder();
        for (int i = 0; i < n; i++) {
            int row = i;
            out.append('[').append(row(columns, what -> ask.of(row, what))).append(']');
        }
        return out.toString();
    }

    /** A call that is refused, and leaves all that the object answers as it was. */
    static void refused(Chant x, String name, int want, Call call) {
        String before = state(x);
        due(name, call.answer(), want);
        due("the state behind " + name, state(x), before);
    }

    /**
     * The bounds of a call that asks of a numbered thing: there are count of them, with answers from
     * 0 to answers - 1. A number of a thing that there is not fits before another one out of bounds.
     */
    static void bounds(String name, int count, int answers, AskTwo ask) {
        for (int i : new int[] {-1, count, count + 1, MIN, MAX}) {
            for (int what : new int[] {0, answers - 1, -1, answers, MIN, MAX}) {
                due(name + "(" + i + ", " + what + ") of " + count, ask.of(i, what), UNKNOWN);
            }
        }
        if (count == 0) {
            return;
        }
        for (int i : new int[] {0, count - 1}) {
            for (int what : new int[] {-1, answers, answers + 1, MIN, MAX}) {
                due(name + "(" + i + ", " + what + ") of " + count, ask.of(i, what), OUTSIDE);
            }
            for (int what : new int[] {0, answers - 1}) {
                int got = ask.of(i, what);
                due(name + "(" + i + ", " + what + ") is taken", got == UNKNOWN || got == OUTSIDE ? got : 0, 0);
            }
        }
    }

    /** An object with something of everything: a text, what was written, a verse, a tone, a tape of AB. */
    static Chant busy() {
        Chant x = of("Ky'(fgx g.)e(c3h,z) a");
        x.write();
        x.tone(5);
        x.point(0, true);
        x.point(0, false);
        x.point(1, false);
        feed(x, "AB");
        return x;
    }

    /** The tape of a busy object can only be seen by reading it. */
    static void tapeIs(Chant x, String text) {
        due("the tape's bytes", x.count(7), text.length());
        due("read()", x.read(), 0);
        due("what the tape held", written(x), text);
    }
}
