/** Promise 15, half: a HALF of nothing, of one SYLLABLE, of 40, and the bound of the SHORT form in each TONE. */
public final class Edge15HalfTest {
    /** How many SYLLABLES must stand before the first ACCENT of the CLOSE; TONES 1 to 8, first and second HALF. */
    private static final int[][] BEFORE = {{3, 3}, {3, 2}, {3, 2}, {5, 1}, {3, 1}, {3, 3}, {3, 1}, {3, 3}};
    private static final int[][] ACCENTS = {{2, 1}, {1, 1}, {2, 1}, {1, 2}, {1, 2}, {2, 1}, {2, 2}, {1, 1}};

    public static void main(String[] args) {
        ofNothing();
        ofOne();
        shortBound();
        shortBoundWithoutAccents();
        firstOfTwoOnNone();
        lastAccent();
        firstAccent();
        howManySteps();
        full();
        outside();
        refusedLeaves();
        Check.finish();
    }

    private static String form(Chant x, int half) {
        return Check.row(4, what -> x.half(half, what));
    }

    private static void fits(int tone, int half, String verse, String want) {
        Check.due("half(" + half + ", 0 to 3) of " + verse + " by TONE " + tone,
                form(PsalmTest.sing(tone, half, verse), half), want);
    }

    private static void ofNothing() {
        Check.promise(15, "of one of nothing 0 .. (1; one of nothing is) .. both NONE of nothing");
        for (int tone = 1; tone <= 8; tone++) {
            fits(tone, 0, "", "0 1 -100 -100");
            fits(tone, 1, "", "0 1 -100 -100");
            Chant x = PsalmTest.sing(tone, 0, "----'-'-");
            Check.due("the other HALF", form(x, 1), "0 1 -100 -100");
            Chant y = PsalmTest.sing(tone, 1, "----'-'-");
            Check.due("the other HALF", form(y, 0), "0 1 -100 -100");
            y.half(1, 0);
            y.fresh();
            Check.due("the HALF behind fresh()", form(y, 1), "0 1 -100 -100");
        }
    }

    private static void ofOne() {
        Check.promise(15, "(of one SYLLABLE: on that)");
        for (int tone = 1; tone <= 8; tone++) {
            for (int half = 0; half < 2; half++) {
                fits(tone, half, "-", "2 1 -100 0");
                fits(tone, half, "'", "2 1 -100 0");
                fits(tone, half, "--", "2 1 -100 0");
            }
        }
    }

    private static void shortBound() {
        Check.promise(15, "or fewer SYLLABLES stand before the first ACCENT of the CLOSE than OPENING and PREPARING STEPS have together and 1");
        for (int tone = 1; tone <= 8; tone++) {
            for (int half = 0; half < 2; half++) {
                boolean two = ACCENTS[tone - 1][half] == 2;
                for (int before = 0; before <= 7; before++) {
                    String verse = "-".repeat(before) + (two ? "'--'--" : "'--");
                    boolean isShort = before < BEFORE[tone - 1][half];
                    int last = two ? before + 3 : before;
                    String first = two && !isShort ? String.valueOf(before) : "-100";
                    fits(tone, half, verse, verse.length() + (isShort ? " 1 " : " 0 ") + first + " " + last);
                }
            }
        }
    }

    private static void shortBoundWithoutAccents() {
        Check.promise(15, "If none has it, the last falls on the last but one SYLLABLE; the first of two falls on the SYLLABLE two before it");
        for (int tone = 1; tone <= 8; tone++) {
            for (int half = 0; half < 2; half++) {
                boolean two = ACCENTS[tone - 1][half] == 2;
                for (int length = 2; length <= 10; length++) {
                    int last = length - 2;
                    int first = two ? last - 2 : last;
                    boolean isShort = first < BEFORE[tone - 1][half];
                    fits(tone, half, "-".repeat(length), length + (isShort ? " 1 " : " 0 ")
                            + (two && !isShort ? first : -100) + " " + last);
                }
            }
        }
    }

    private static void firstOfTwoOnNone() {
        Check.promise(15, "SHORT .. if the first of two would fall on none");
        for (int tone : new int[] {4, 5, 7}) {
            fits(tone, 1, "'----", "5 1 -100 0");
            fits(tone, 1, "-'---", "5 1 -100 1");
            fits(tone, 1, "--'--", "5 1 -100 2");
            fits(tone, 1, "---'-", "5 0 1 3");
        }
    }

    private static void lastAccent() {
        Check.promise(15, "last ACCENT of the CLOSE .. falls on the last SYLLABLE that has the ACCENT");
        for (int at = 0; at < 8; at++) {
            String verse = "-".repeat(at) + "'" + "-".repeat(7 - at);
            fits(2, 0, verse, (at == 7 ? 9 : 8) + (at < 3 ? " 1 " : " 0 ") + "-100 " + at);
            String from = "'".repeat(at + 1) + "-".repeat(7 - at);
            fits(2, 0, from, (at == 7 ? 9 : 8) + (at < 3 ? " 1 " : " 0 ") + "-100 " + at);
        }
    }

    private static void firstAccent() {
        Check.promise(15, "its first .. with two the first of them on the last one that has it before that");
        fits(7, 1, "-''", "4 0 1 2");
        fits(7, 1, "-'-'", "5 0 1 3");
        fits(7, 1, "-''-'", "6 0 2 4");
        fits(7, 1, "-'------'", "10 0 1 8");
        fits(7, 1, "'-------'", "10 1 -100 8");
        // None has it before that: the SYLLABLE two before it.
        fits(7, 1, "------'--", "9 0 4 6");
        Check.promise(15, "first: NONE with one");
        fits(2, 1, "-'-'-'-", "7 0 -100 5");
        fits(8, 0, "-'-'-'-", "7 0 -100 5");
        // Of the SHORT form too: its CLOSE has but its last ACCENT.
        fits(1, 0, "--'-'-", "6 1 -100 4");
        fits(1, 0, "---'-'-", "7 0 3 5");
    }

    private static void howManySteps() {
        Check.promise(15, "How many STEPS a HALF has: one each, and one more if the last SYLLABLE is an ACCENT of the CLOSE");
        for (int tone = 1; tone <= 8; tone++) {
            for (int half = 0; half < 2; half++) {
                for (int length = 1; length <= 12; length++) {
                    String plain = "-".repeat(length - 1);
                    int unaccented = length == 1 ? 2 : length;
                    Check.due("STEPS of " + plain + "-",
                            PsalmTest.sing(tone, half, plain + "-").half(half, 0), unaccented);
                    Check.due("STEPS of " + plain + "'",
                            PsalmTest.sing(tone, half, plain + "'").half(half, 0), length + 1);
                }
            }
        }
    }

    private static void full() {
        Check.promise(15, "in two HALVES, 40 at most in each");
        for (int half = 0; half < 2; half++) {
            fits(2, half, "-".repeat(40), "40 0 -100 38");
            fits(2, half, "-".repeat(39) + "'", "41 0 -100 39");
            fits(7, half, "-".repeat(40), "40 0 36 38");
            fits(7, half, "-".repeat(39) + "'", "41 0 37 39");
            fits(7, half, "'".repeat(40), "41 0 38 39");
        }
    }

    private static void outside() {
        Check.promise(15, "OUTSIDE");
        Chant x = PsalmTest.sing(7, 0, "---'-'-");
        for (int half : new int[] {-1, 2, 3, Check.MIN, Check.MAX}) {
            for (int what : new int[] {0, 3, 4, -1}) {
                Check.due("half(" + half + ", " + what + ")", x.half(half, what), Check.OUTSIDE);
            }
        }
        for (int what : new int[] {-1, 4, 5, Check.MIN, Check.MAX}) {
            Check.due("half(0, " + what + ")", x.half(0, what), Check.OUTSIDE);
            Check.due("half(1, " + what + ") of nothing", x.half(1, what), Check.OUTSIDE);
        }
        Check.due("half(0, 0)", x.half(0, 0), 7);
        Check.due("half(0, 3)", x.half(0, 3), 5);
    }

    private static void refusedLeaves() {
        Check.promise(15, "OUTSIDE .. then nothing changes");
        Chant x = Check.busy();
        Check.refused(x, "half(2, 0)", Check.OUTSIDE, () -> x.half(2, 0));
        Check.refused(x, "half(0, 4)", Check.OUTSIDE, () -> x.half(0, 4));
        Check.tapeIs(x, "AB");
    }
}
