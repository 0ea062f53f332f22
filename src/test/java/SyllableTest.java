/** Promise 6: syllable. */
public final class SyllableTest {
    public static void main(String[] args) {
        Chant x = Check.of(" (c4)\nKy'(fg.)ri(gx/fw~)e(hgf::z)  \n lei'so'n() abc (d)(e)f ");
        int n = x.count(0);
        Check.due("count(0)", n, 9);
        Check.due("WORDS", Check.row(n, i -> x.syllable(i, 0)), "0 1 1 1 2 3 4 4 4");
        Check.due("LETTERS", Check.row(n, i -> x.syllable(i, 1)), "0 3 2 1 8 3 0 0 1");
        Check.due("ACCENTS", Check.row(n, i -> x.syllable(i, 2)), "0 1 0 0 1 0 0 0 0");
        Check.due("( )", Check.row(n, i -> x.syllable(i, 3)), "1 1 1 1 1 0 1 1 0");
        Check.due("NOTES", Check.row(n, i -> x.syllable(i, 4)), "0 2 1 3 0 0 1 1 0");
        Check.due("first NOTES", Check.row(n, i -> x.syllable(i, 5)), "-100 0 2 3 -100 -100 6 7 -100");
        Check.due("syllable(9, 0)", x.syllable(9, 0), -101);
        Check.due("syllable(-1, 0)", x.syllable(-1, 0), -101);
        Check.due("syllable(9, 6)", x.syllable(9, 6), -101);
        Check.due("syllable(MAX, -1)", x.syllable(Integer.MAX_VALUE, -1), -101);
        Check.due("syllable(0, 6)", x.syllable(0, 6), -102);
        Check.due("syllable(0, 8)", x.syllable(0, 8), -102);
        Check.due("syllable(0, -1)", x.syllable(0, -1), -102);
        Check.finish();
    }
}
