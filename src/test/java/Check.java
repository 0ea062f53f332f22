/** What the tests share: calls with the answers that are due, and texts fed to an object. */
final class Check {
    private static int wrong = 0;
    private static int asked = 0;

    private Check() {
    }

    static void due(String call, int got, int want) {
        asked++;
        if (got != want) {
            wrong++;
            System.out.println(call + " answered " + got + ", due is " + want);
        }
    }

    static void due(String call, String got, String want) {
        asked++;
        if (!got.equals(want)) {
            wrong++;
            System.out.println(call + " answered \"" + got + "\", due is \"" + want + "\"");
        }
    }

    static void finish() {
        System.out.println(asked + " answers, " + wrong + " not as due");
        if (wrong != 0) {
            System.exit(1);
        }
    }

    /** Puts the text on the tape, behind nothing else. */
    static void feed(ChantNeumes x, String text) {
        x.end(0);
        for (int p = 0; p < text.length(); p += 20) {
            x.feed(four(text, p), four(text, p + 4), four(text, p + 8), four(text, p + 12), four(text, p + 16));
        }
        due("end() for \"" + text + "\"", x.end(text.length()), text.length());
    }

    private static int four(String text, int p) {
        int number = 0;
        for (int i = p; i < p + 4; i++) {
            number = number << 8 | (i < text.length() ? text.charAt(i) : ' ');
        }
        return number;
    }

    static int read(ChantNeumes x, String text) {
        feed(x, text);
        return x.read();
    }

    /** A new object that has read a text without a fault. */
    static ChantNeumes of(String text) {
        ChantNeumes x = new ChantNeumes();
        int notes = read(x, text);
        if (notes < 0) {
            due("read() of \"" + text + "\", place " + x.place(), notes, 0);
        }
        return x;
    }

    static String written(ChantNeumes x) {
        int length = x.write();
        StringBuilder out = new StringBuilder();
        for (int i = 0; i < length; i++) {
            out.append((char) x.at(i));
        }
        return out.toString();
    }

    interface Ask {
        int of(int i);
    }

    /** The answers for 0 to n - 1, with blanks between. */
    static String row(int n, Ask ask) {
        StringBuilder out = new StringBuilder();
        for (int i = 0; i < n; i++) {
            out.append(i == 0 ? "" : " ").append(ask.of(i));
        }
        return out.toString();
    }
}
