/** Promise 8: neume. */
public final class NeumeTest {
    public static void main(String[] args) {
        table();
        longest();
        liquid();
        wrong();
        Check.finish();
    }

    private static String all(Chant x, int what) {
        return Check.row(x.count(3), i -> x.neume(i, what));
    }

    private static void kinds(String text, String kinds, String firsts, String notes) {
        Chant x = Check.of(text);
        Check.due("kinds of \"" + text + "\"", all(x, 0), kinds);
        Check.due("first notes of \"" + text + "\"", all(x, 1), firsts);
        Check.due("notes of \"" + text + "\"", all(x, 2), notes);
    }

    private static void table() {
        kinds("(f)", "1", "0", "1");
        kinds("(fv)", "2", "0", "1");
        kinds("(fvg)", "3", "0", "2");
        kinds("(gf)", "4", "0", "2");
        kinds("(ff)", "5", "0", "2");
        kinds("(fgh)", "6", "0", "3");
        kinds("(hgf)", "7", "0", "3");
        kinds("(fgf)", "8", "0", "3");
        kinds("(gfg)", "9", "0", "3");
        kinds("(fff)", "10", "0", "3");
        kinds("(fgfg)", "11", "0", "4");
        kinds("(gfgf)", "12", "0", "4");
        kinds("(fghg)", "13", "0", "4");
        kinds("(hgfg)", "14", "0", "4");
        kinds("(fhgf)", "15", "0", "4");
        kinds("(fghgf)", "16", "0", "5");
        kinds("(hgfgh)", "17", "0", "5");
    }

    private static void longest() {
        kinds("(fghijk)", "6 6", "0 3", "3 3");
        kinds("(fghi)", "6 1", "0 3", "3 1");
        kinds("(fghiv)", "6 2", "0 3", "3 1");
        kinds("(ihgf)", "7 1", "0 3", "3 1");
        kinds("(fffff)", "10 5", "0 3", "3 2");
        kinds("(ffff)", "10 1", "0 3", "3 1");
        kinds("(ffg)", "5 1", "0 2", "2 1");
        kinds("(fgg)", "3 1", "0 2", "2 1");
        kinds("(fgff)", "8 1", "0 3", "3 1");
        kinds("(fgfgf)", "11 1", "0 4", "4 1");
        kinds("(fghghg)", "13 4", "0 4", "4 2");
        kinds("(fghgfe)", "16 1", "0 5", "5 1");
        kinds("(hgfghi)", "17 1", "0 5", "5 1");
        kinds("(fhgfe)", "15 1", "0 4", "4 1");
        kinds("(fixh/gi)(f)", "3 3 1", "0 2 4", "2 2 1");
        kinds("(iixi)", "5", "0", "2");
        kinds("(fg,gf;fzg c4g)", "3 4 1 1 1", "0 2 4 5 6", "2 2 1 1 1");
    }

    private static void liquid() {
        Chant x = Check.of("(f~ fg~ f~g fghgf~e~ fghi~ f~)");
        Check.due("liquid", all(x, 3), "1 1 0 1 1 0 1 1");
    }

    private static void wrong() {
        Chant x = Check.of("(fg)");
        Check.due("neume(1, 0)", x.neume(1, 0), -101);
        Check.due("neume(-1, 4)", x.neume(-1, 4), -101);
        Check.due("neume(0, 4)", x.neume(0, 4), -102);
        Check.due("neume(0, -1)", x.neume(0, -1), -102);
    }
}
