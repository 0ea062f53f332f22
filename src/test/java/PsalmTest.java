/** Promises 12 (tone), 13 (point), 14 (fresh), 15 (half) and 16 (sung). */
public final class PsalmTest {
    public static void main(String[] args) {
        tones();
        points();
        halves();
        lastSyllable();
        placedWithoutAccent();
        shortForm();
        twoAccents();
        wrong();
        Check.finish();
    }

    /** The verse: a ' for a syllable with the accent, a - for one without. */
    static Chant sing(int tone, int half, String syllables) {
        Chant x = new Chant();
        x.tone(tone);
        for (int i = 0; i < syllables.length(); i++) {
            Check.due("point()", x.point(half, syllables.charAt(i) == '\''), i + 1);
        }
        return x;
    }

    static String steps(Chant x, int half) {
        StringBuilder out = new StringBuilder();
        for (int k = 0; k < x.half(half, 0); k++) {
            out.append(k == 0 ? "" : " ").append(x.sung(half, k, 0)).append(':').append(x.sung(half, k, 1));
        }
        return out.toString();
    }

    private static void fits(int tone, int half, String syllables, String form, String steps) {
        Chant x = sing(tone, half, syllables);
        String name = "tone " + tone + ", half " + half + ", " + syllables;
        Check.due(name + ": short, first, last", Check.row(3, i -> x.half(half, i + 1)), form);
        Check.due(name + ": steps", steps(x, half), steps);
        Check.due(name + ": behind the last", x.sung(half, x.half(half, 0), 0), -100);
        Check.due(name + ": the other half", Check.row(4, i -> x.half(1 - half, i)), "0 1 -100 -100");
    }

    private static void tones() {
        Chant x = new Chant();
        Check.due("tone(8)", x.tone(8), 1);
        Check.due("tone(0)", x.tone(0), -102);
        Check.due("tone(9)", x.tone(9), -102);
        Check.due("tone(MIN)", x.tone(Integer.MIN_VALUE), -102);
        Check.due("tone(1)", x.tone(1), 8);
        Check.due("tone(1)", x.tone(1), 1);
        x.point(0, true);
        x.fresh();
        Check.due("tone(2) behind fresh()", x.tone(2), 1);
        Check.read(x, "(f)");
        Check.due("tone(2) behind read()", x.tone(2), 2);
    }

    private static void points() {
        Chant x = new Chant();
        for (int i = 1; i <= 40; i++) {
            Check.due("point(0)", x.point(0, false), i);
        }
        Check.due("point(0) too many", x.point(0, true), -104);
        Check.due("point(1)", x.point(1, true), 1);
        Check.due("point(2)", x.point(2, true), -102);
        Check.due("point(-1)", x.point(-1, true), -102);
        Check.due("half(0, 3): the refused one is not there", x.half(0, 3), 38);
        Check.due("half(0, 0)", x.half(0, 0), 40);
        Check.due("fresh()", x.fresh(), 41);
        Check.due("fresh()", x.fresh(), 0);
        Check.due("point(0)", x.point(0, false), 1);
        Check.due("half(1, 0)", x.half(1, 0), 0);
        Check.due("fresh()", x.fresh(), 1);
        for (int i = 1; i <= 39; i++) {
            x.point(1, false);
        }
        x.point(1, true);
        Check.due("half(1, 0) of 40 and one step more", x.half(1, 0), 41);
    }

    private static void halves() {
        fits(2, 0, "-----'-", "0 -100 5", "0:-2 1:0 2:0 3:0 4:0 5:1 6:0");
        fits(4, 0, "------'--", "0 -100 6", "0:-1 1:-2 2:0 3:0 4:-1 5:0 6:1 7:0 8:0");
        fits(4, 0, "-----'--", "0 -100 5", "0:-1 1:-2 2:0 3:-1 4:0 5:1 6:0 7:0");
        fits(1, 1, "---'--", "0 -100 3", "0:0 1:-1 2:-2 3:-1 4:-1 5:-3");
        fits(3, 1, "--'---", "0 -100 2", "0:0 1:0 2:-2 3:-2 4:-2 5:-1");
        fits(8, 1, "'-'-'---", "0 -100 4", "0:0 1:0 2:0 3:-1 4:1 5:1 6:1 7:-3");
    }

    private static void lastSyllable() {
        fits(2, 0, "---'", "0 -100 3", "0:-2 1:0 2:0 3:1 3:0");
        fits(6, 1, "---'", "0 -100 3", "0:0 1:-2 2:-1 3:-1 3:-2");
        fits(7, 1, "-'-'", "0 1 3", "0:0 1:1 2:0 3:-1 3:-2");
        fits(5, 1, "-''", "0 1 2", "0:0 1:1 2:-1 2:-2");
        fits(5, 1, "-''-", "0 1 2", "0:0 1:1 2:-1 3:-2");
    }

    private static void placedWithoutAccent() {
        fits(2, 0, "-----", "0 -100 3", "0:-2 1:0 2:0 3:1 4:0");
        fits(2, 1, "-", "1 -100 0", "0:-2 0:-2");
        fits(2, 1, "--", "1 -100 0", "0:-2 1:-2");
        fits(2, 1, "---", "1 -100 1", "0:0 1:-2 2:-2");
        fits(2, 1, "----", "0 -100 2", "0:0 1:-1 2:-2 3:-2");
        fits(7, 0, "-------", "0 3 5", "0:-1 1:-2 2:0 3:2 4:1 5:-1 6:0");
        fits(7, 0, "-----'-", "0 3 5", "0:-1 1:-2 2:0 3:2 4:1 5:-1 6:0");
        fits(4, 1, "---'-", "0 1 3", "0:0 1:-1 2:0 3:1 4:-2");
        fits(4, 1, "---'---", "0 1 3", "0:0 1:-1 2:0 3:1 4:-1 5:-1 6:-2");
    }

    private static void shortForm() {
        fits(1, 0, "--'-'-", "1 -100 4", "0:0 1:0 2:0 3:0 4:-1 5:0");
        fits(1, 0, "---'-'-", "0 3 5", "0:-2 1:-1 2:0 3:1 4:0 5:-1 6:0");
        fits(7, 1, "-'-", "1 -100 1", "0:0 1:-1 2:-2");
        fits(7, 1, "'-", "1 -100 0", "0:-1 1:-2");
        fits(7, 1, "'-'-", "1 -100 2", "0:0 1:0 2:-1 3:-2");
        fits(7, 1, "--'-", "1 -100 2", "0:0 1:0 2:-1 3:-2");
        fits(7, 1, "---'-", "0 1 3", "0:0 1:1 2:0 3:-1 4:-2");
        fits(4, 0, "----'---", "1 -100 4", "0:0 1:0 2:0 3:0 4:1 5:0 6:0 7:0");
        fits(8, 1, "--'--", "1 -100 2", "0:0 1:0 2:1 3:1 4:-3");
        fits(8, 1, "---'--", "0 -100 3", "0:0 1:0 2:-1 3:1 4:1 5:-3");
        fits(5, 1, "'", "1 -100 0", "0:-1 0:-2");
    }

    private static void twoAccents() {
        fits(3, 0, "-'-'--'-", "0 3 6", "0:-4 1:-1 2:0 3:1 4:0 5:0 6:-1 7:0");
        fits(7, 0, "---'''--", "0 4 5", "0:-1 1:-2 2:0 3:0 4:2 5:-1 6:-1 7:0");
        fits(6, 0, "---'----'---", "0 3 8",
                "0:-2 1:-1 2:0 3:1 4:0 5:0 6:0 7:0 8:-1 9:-1 10:-1 11:0");
    }

    private static void wrong() {
        Chant x = sing(2, 0, "-----'-");
        Check.due("half(2, 0)", x.half(2, 0), -102);
        Check.due("half(-1, 0)", x.half(-1, 0), -102);
        Check.due("half(0, 4)", x.half(0, 4), -102);
        Check.due("half(0, -1)", x.half(0, -1), -102);
        Check.due("sung(2, 0, 0)", x.sung(2, 0, 0), -102);
        Check.due("sung(-1, 99, 0)", x.sung(-1, 99, 0), -102);
        Check.due("sung(0, 99, 2)", x.sung(0, 99, 2), -102);
        Check.due("sung(0, 0, -1)", x.sung(0, 0, -1), -102);
        Check.due("sung(0, 7, 0)", x.sung(0, 7, 0), -100);
        Check.due("sung(0, -1, 1)", x.sung(0, -1, 1), -100);
        Check.due("sung(0, MAX, 1)", x.sung(0, Integer.MAX_VALUE, 1), -100);
        Check.due("sung(1, 0, 0)", x.sung(1, 0, 0), -100);
        // The tone that holds when a call asks is the one that tells.
        Check.due("half(0, 2) by tone 2", x.half(0, 2), -100);
        x.tone(7);
        Check.due("half(0, 2) by tone 7", x.half(0, 2), 3);
    }
}
