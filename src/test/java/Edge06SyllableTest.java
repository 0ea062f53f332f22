/** Promise 6, syllable: the first and the last one, what is none in it, and numbers out of bounds. */
public final class Edge06SyllableTest {
    public static void main(String[] args) {
        words();
        whereItEnds();
        letters();
        accents();
        brackets();
        notes();
        firstNotes();
        unknownAndOutside();
        refusedLeaves();
        nothingOfALongerText();
        Check.finish();
    }

    private static void column(String text, int what, String want) {
        Chant x = Check.of(text);
        Check.due("syllable(.., " + what + ") of \"" + text + "\"",
                Check.row(x.count(0), i -> x.syllable(i, what)), want);
    }

    private static void words() {
        Check.promise(6, "its WORD (what = 0, from 0 on)");
        column("a", 0, "0");
        column(" \n a", 0, "0");
        column("()", 0, "0");
        column("a b", 0, "0 1");
        Chant x = Check.of("a ".repeat(60));
        Check.due("the first of 60 WORDS", x.syllable(0, 0), 0);
        Check.due("the last of 60 WORDS", x.syllable(59, 0), 59);
        Chant y = Check.of("(g)".repeat(60));
        Check.due("the last of 60 SYLLABLES of one WORD", y.syllable(59, 0), 0);
        Check.promise(6, "a syllable behind a ) without a blank between is of the same WORD");
        column("a(g)b", 0, "0 0");
        column("a()()b()", 0, "0 0 0");
        column("a(g) b", 0, "0 1");
        column("a(g)\nb", 0, "0 1");
        column("(g g)b", 0, "0 0");
    }

    private static void whereItEnds() {
        Check.promise(6, "It ends behind the ), or where a blank or the end stands");
        column("ab", 1, "2");
        column("ab c", 1, "2 1");
        column("ab\nc", 1, "2 1");
        column("ab(g)c", 1, "2 1");
        column("ab (g)c", 1, "2 0 1");
        column("ab(g)(g)", 1, "2 0");
    }

    private static void letters() {
        Check.promise(6, "LETTERS (1, with those ')");
        column("()", 1, "0");
        column("a", 1, "1");
        column("'", 1, "1");
        column("'''", 1, "3");
        column("a'b'", 1, "4");
        column("a".repeat(1500), 1, "1500");
        column("'".repeat(1500), 1, "1500");
        column("a b" + "c".repeat(1490), 1, "1 1491");
    }

    private static void accents() {
        Check.promise(6, "', which tells that it has the ACCENT .. whether it has the ACCENT (2)");
        column("a", 2, "0");
        column("'", 2, "1");
        column("'a b a' a'b()c a''b'", 2, "1 0 1 1 0 1");
        column("()", 2, "0");
        column("a".repeat(1499) + "'", 2, "1");
        column("'" + "a".repeat(1499), 2, "1");
    }

    private static void brackets() {
        Check.promise(6, "whether ( ) (3); one without LETTERS has the ( )");
        column("a", 3, "0");
        column("a()", 3, "1");
        column("()", 3, "1");
        column("(g)", 3, "1");
        column("a (,)b c( )", 3, "0 1 0 1");
    }

    private static void notes() {
        Check.promise(6, "NOTES (4)");
        column("a", 4, "0");
        column("a()", 4, "0");
        column("(c4gxgy,z/ )", 4, "0");
        column("(g)", 4, "1");
        column("(c c4 f)", 4, "2");
        column("(" + "g".repeat(150) + ")a", 4, "150 0");
    }

    private static void firstNotes() {
        Check.promise(6, "its first NOTE (5; NONE)");
        column("a", 5, "-100");
        column("a()", 5, "-100");
        column("(c4gxgy,z/ )", 5, "-100");
        column("(gg)()(g) a b(,g)", 5, "0 -100 2 -100 3");
        column("(" + "g".repeat(149) + ")()(g)", 5, "0 -100 149");
        column("(" + "g".repeat(150) + ")(,)", 5, "0 -100");
    }

    private static void unknownAndOutside() {
        Check.promise(6, "UNKNOWN; OUTSIDE, the first that fits");
        Check.bounds("syllable", 0, 6, Check.of("")::syllable);
        Check.bounds("syllable", 0, 6, Check.of(" \n")::syllable);
        Check.bounds("syllable", 1, 6, Check.of("(gg)")::syllable);
        Check.bounds("syllable", 3, 6, Check.of("a(g)b c")::syllable);
        Check.bounds("syllable", 60, 6, Check.of("a ".repeat(60))::syllable);
    }

    private static void refusedLeaves() {
        Check.promise(6, "UNKNOWN; OUTSIDE .. then nothing changes");
        Chant x = Check.busy();
        Check.refused(x, "syllable(3, 0)", Check.UNKNOWN, () -> x.syllable(3, 0));
        Check.refused(x, "syllable(0, 6)", Check.OUTSIDE, () -> x.syllable(0, 6));
        Check.tapeIs(x, "AB");
    }

    private static void nothingOfALongerText() {
        Check.promise(6, "UNKNOWN (a number of a thing that there is not): of a text before this one");
        Chant x = Check.of("a'(gg) b'(g) c'(g)");
        Check.read(x, "d");
        Check.due("its SYLLABLE", Check.row(6, what -> x.syllable(0, what)), "0 1 0 0 0 -100");
        Check.bounds("syllable", 1, 6, x::syllable);
        Check.read(x, ")");
        Check.bounds("syllable", 0, 6, x::syllable);
    }
}
