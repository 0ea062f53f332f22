/** Promise 16, sung: each TONE at the bound of its SHORT form, the first and the last STEP, and what is none. */
public final class Edge16SungTest {
    private static final String[] LONG_FIRST = {"-2 -1 0 1 0 0 -1 -1 0", "-2 0 0 1 0 0", "-4 -1 0 1 0 0 -1 -1 0",
        "-1 -2 0 -1 0 1 0 0", "-4 -2 0 1 0 0", "-2 -1 0 1 0 0 -1 -1 0", "-1 -2 0 2 1 1 -1 -1 0", "-3 -2 0 1 0 0"};
    private static final String[] SHORT_FIRST = {"0 0 0 0 0 -1 -1 0", "0 0 1 0 0", "0 0 0 0 0 -1 -1 0",
        "0 0 0 0 1 0 0", "0 0 1 0 0", "0 0 0 0 0 -1 -1 0", "0 0 0 0 0 -1 -1 0", "0 0 1 0 0"};
    private static final String[] LONG_SECOND = {"0 -1 -2 -1 -1 -3", "0 -1 -2 -2 -2", "0 0 -2 -2 -1",
        "0 -1 0 0 1 -1 -2", "0 1 1 1 -1 -1 -2", "0 -2 -1 -1 -1 -2", "0 1 0 0 -1 -1 -2", "0 0 -1 1 1 -3"};
    private static final String[] SHORT_SECOND = {"0 0 -1 -1 -3", "0 -2 -2 -2", "0 -2 -2 -1", "0 0 0 1 -1 -2",
        "0 0 0 -1 -1 -2", "0 0 -1 -1 -2", "0 0 0 -1 -1 -2", "0 0 1 1 -3"};
    private static final int[][] BEFORE = {{3, 3}, {3, 2}, {3, 2}, {5, 1}, {3, 1}, {3, 3}, {3, 1}, {3, 3}};
    private static final int[][] ACCENTS = {{2, 1}, {1, 1}, {2, 1}, {1, 2}, {1, 2}, {2, 1}, {2, 2}, {1, 1}};
    private static final int[][] UPS = {{-1, -1}, {1, -2}, {-1, -2}, {1, 1}, {1, -1}, {-1, -1}, {-1, -1}, {1, 1}};
    private static final int[][] LASTS = {{0, -3}, {0, -2}, {0, -1}, {0, -2}, {0, -2}, {0, -2}, {0, -2}, {0, -3}};

    public static void main(String[] args) {
        atTheBound();
        justShort();
        tenorBetween();
        upThenLast();
        ofOne();
        goingOnOfNone();
        full();
        noSuchStep();
        outside();
        refusedLeaves();
        otherCallsBetween();
        Check.finish();
    }

    private static String steps(Chant x, int half) {
        return Check.row(x.half(half, 0), k -> x.sung(half, k, 1));
    }

    private static String verseOf(int tone, int half, int before) {
        return "-".repeat(before) + (ACCENTS[tone - 1][half] == 2 ? "'--'--" : "'--");
    }

    private static void sings(int tone, int half, String verse, String want) {
        Chant x = PsalmTest.sing(tone, half, verse);
        String name = "sung(" + half + ", ..) of " + verse + " by TONE " + tone;
        Check.due(name, steps(x, half), want);
        int syllables = verse.length();
        Check.due(name + ", SYLLABLES", Check.row(x.half(half, 0), k -> x.sung(half, k, 0)),
                Check.row(x.half(half, 0), k -> Math.min(k, syllables - 1)));
    }

    private static void atTheBound() {
        Check.promise(16, "TONES, as this table tells: with as few SYLLABLES before the ACCENTS as the whole form needs");
        for (int tone = 1; tone <= 8; tone++) {
            sings(tone, 0, verseOf(tone, 0, BEFORE[tone - 1][0]), LONG_FIRST[tone - 1]);
            sings(tone, 1, verseOf(tone, 1, BEFORE[tone - 1][1]), LONG_SECOND[tone - 1]);
        }
    }

    private static void justShort() {
        Check.promise(16, "the SHORT form (no OPENING, no PREPARING STEPS, and as if its CLOSE had but its last ACCENT): with one fewer");
        for (int tone = 1; tone <= 8; tone++) {
            sings(tone, 0, verseOf(tone, 0, BEFORE[tone - 1][0] - 1), SHORT_FIRST[tone - 1]);
            sings(tone, 1, verseOf(tone, 1, BEFORE[tone - 1][1] - 1), SHORT_SECOND[tone - 1]);
        }
    }

    private static void tenorBetween() {
        Check.promise(16, "all others get the TENOR, 0: one SYLLABLE more is sung on it, right before the PREPARING STEPS");
        for (int tone = 1; tone <= 8; tone++) {
            String first = LONG_FIRST[tone - 1];
            int opening = first.indexOf(' ', first.indexOf(' ') + 1);
            sings(tone, 0, verseOf(tone, 0, BEFORE[tone - 1][0] + 1),
                    first.substring(0, opening) + " 0" + first.substring(opening));
            sings(tone, 1, verseOf(tone, 1, BEFORE[tone - 1][1] + 1), "0 " + LONG_SECOND[tone - 1]);
        }
    }

    private static void upThenLast() {
        Check.promise(16, "(if it is itself an ACCENT of the CLOSE: UP, then LAST, two STEPS)");
        for (int tone = 1; tone <= 8; tone++) {
            for (int half = 0; half < 2; half++) {
                Chant x = PsalmTest.sing(tone, half, "---------'");
                Check.due("STEPS", x.half(half, 0), 11);
                Check.due("SYLLABLE of the last but one", x.sung(half, 9, 0), 9);
                Check.due("SYLLABLE of the last", x.sung(half, 10, 0), 9);
                Check.due("UP", x.sung(half, 9, 1), UPS[tone - 1][half]);
                Check.due("LAST", x.sung(half, 10, 1), LASTS[tone - 1][half]);
            }
        }
        sings(7, 1, "-'-'", "0 1 0 -1 -2");
        sings(7, 1, "-''", "0 1 -1 -2");
        sings(4, 1, "-''", "0 -1 1 -2");
        sings(4, 0, "-----'", "-1 -2 0 -1 0 1 0");
    }

    private static void ofOne() {
        Check.promise(16, "(of one SYLLABLE: on that): UP, then LAST");
        for (int tone = 1; tone <= 8; tone++) {
            for (int half = 0; half < 2; half++) {
                String want = UPS[tone - 1][half] + " " + LASTS[tone - 1][half];
                sings(tone, half, "-", want);
                sings(tone, half, "'", want);
                sings(tone, half, "--", want);
                sings(tone, half, "'-", want);
                sings(tone, half, "-'", "0 " + want);
            }
        }
    }

    private static void goingOnOfNone() {
        Check.promise(16, "those behind it, up to the next ACCENT of the CLOSE, or to the last SYLLABLE, GOING ON: none, one, many");
        sings(7, 0, "---''-", "-1 -2 0 2 -1 0");
        sings(7, 0, "---'-'-", "-1 -2 0 2 1 -1 0");
        sings(7, 0, "---'----'-", "-1 -2 0 2 1 1 1 1 -1 0");
        sings(7, 0, "---''--", "-1 -2 0 2 -1 -1 0");
        sings(7, 0, "---''-----", "-1 -2 0 2 -1 -1 -1 -1 -1 0");
        sings(4, 1, "-'-'-", "0 -1 0 1 -2");
        sings(4, 1, "-'-'---", "0 -1 0 1 -1 -1 -2");
        // The ACCENTS before those of the CLOSE are sung as SYLLABLES without.
        sings(2, 1, "'''''-", "0 0 0 -1 -2 -2");
        sings(7, 1, "''''-", "0 0 1 -1 -2");
    }

    private static void full() {
        Check.promise(16, "40 at most in each: 41 STEPS");
        sings(8, 0, "-".repeat(39) + "'", "-3 -2" + " 0".repeat(37) + " 1 0");
        sings(8, 1, "-".repeat(39) + "'", "0" + " 0".repeat(36) + " 0 -1 1 -3");
        sings(5, 1, "-'" + "-".repeat(37) + "'", "0 1" + " 1".repeat(37) + " -1 -2");
        Chant x = PsalmTest.sing(8, 0, "-".repeat(39) + "'");
        Check.due("sung(0, 40, 0)", x.sung(0, 40, 0), 39);
        Check.due("sung(0, 41, 0)", x.sung(0, 41, 0), Check.NONE);
        Chant y = PsalmTest.sing(8, 0, "-".repeat(40));
        Check.due("sung(0, 39, 0)", y.sung(0, 39, 0), 39);
        Check.due("sung(0, 40, 0)", y.sung(0, 40, 0), Check.NONE);
    }

    private static void noSuchStep() {
        Check.promise(16, "NONE: there is no such STEP");
        for (int half = 0; half < 2; half++) {
            for (String verse : new String[] {"", "-", "'", "---'-'-", "---'-'"}) {
                Chant x = PsalmTest.sing(7, half, verse);
                int steps = x.half(half, 0);
                for (int what = 0; what < 2; what++) {
                    for (int k : new int[] {-1, steps, steps + 1, 40, 41, Check.MIN, Check.MAX}) {
                        Check.due("sung(" + half + ", " + k + ", " + what + ") of " + verse,
                                x.sung(half, k, what), Check.NONE);
                    }
                    Check.due("sung() of the other HALF", x.sung(1 - half, 0, what), Check.NONE);
                }
            }
        }
        Chant y = PsalmTest.sing(7, 0, "---'-'-");
        y.half(0, 0);
        y.fresh();
        Check.due("sung(0, 0, 0) behind fresh()", y.sung(0, 0, 0), Check.NONE);
    }

    private static void outside() {
        Check.promise(16, "OUTSIDE: the HALF, what; NONE: OUTSIDE fits first");
        Chant x = PsalmTest.sing(7, 0, "---'-'-");
        for (int k : new int[] {0, 6, 7, -1, Check.MIN, Check.MAX}) {
            for (int half : new int[] {-1, 2, Check.MIN, Check.MAX}) {
                Check.due("sung(" + half + ", " + k + ", 0)", x.sung(half, k, 0), Check.OUTSIDE);
                Check.due("sung(" + half + ", " + k + ", 2)", x.sung(half, k, 2), Check.OUTSIDE);
            }
            for (int what : new int[] {-1, 2, 3, Check.MIN, Check.MAX}) {
                Check.due("sung(0, " + k + ", " + what + ")", x.sung(0, k, what), Check.OUTSIDE);
                Check.due("sung(1, " + k + ", " + what + ")", x.sung(1, k, what), Check.OUTSIDE);
            }
        }
        Check.due("sung(0, 0, 0)", x.sung(0, 0, 0), 0);
        Check.due("sung(0, 6, 1)", x.sung(0, 6, 1), 0);
    }

    private static void refusedLeaves() {
        Check.promise(16, "OUTSIDE; NONE .. then nothing changes");
        Chant x = Check.busy();
        Check.refused(x, "sung(2, 0, 0)", Check.OUTSIDE, () -> x.sung(2, 0, 0));
        Check.refused(x, "sung(0, 99, 0)", Check.NONE, () -> x.sung(0, 99, 0));
        Check.tapeIs(x, "AB");
    }

    private static void otherCallsBetween() {
        Check.promise(16, "by the TONE: the one that holds, and the HALF that is asked for");
        Chant x = PsalmTest.sing(1, 0, "---'--'--");
        for (int i = 0; i < 6; i++) {
            x.point(1, i == 3);
        }
        for (int tone = 1; tone <= 8; tone++) {
            x.tone(tone);
            if (ACCENTS[tone - 1][0] == 2) {
                Check.due("first HALF by TONE " + tone, steps(x, 0), LONG_FIRST[tone - 1]);
            }
            if (BEFORE[tone - 1][1] == 3) {
                Check.due("second HALF by TONE " + tone, steps(x, 1), LONG_SECOND[tone - 1]);
            }
        }
        x.tone(7);
        String other = x.sung(0, 3, 1) + " " + x.sung(1, 3, 1) + " " + x.sung(0, 0, 1) + " " + x.sung(1, 5, 1);
        Check.due("one HALF and the other in turn", other, "2 -1 -1 -2");
    }
}
