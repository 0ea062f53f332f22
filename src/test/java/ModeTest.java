/** Promise 11: mode. */
public final class ModeTest {
    public static void main(String[] args) {
        finals();
        plagal();
        wrong();
        Check.finish();
    }

    private static void mode(String text, String want) {
        Chant x = Check.of(text);
        Check.due("mode of \"" + text + "\"", Check.row(5, x::mode), want);
    }

    private static void finals() {
        mode("(j)", "0 0 -100 0 0");
        mode("(k)", "1 1 5 1 1");
        mode("(l)", "3 2 7 2 2");
        mode("(m)", "5 3 7 3 3");
        mode("(g)", "7 -3 1 -3 -3");
        mode("(h)", "0 -2 -100 -2 -2");
        mode("(i)", "0 -1 -100 -1 -1");
        mode("(d)", "1 -6 -2 -6 -6");
        mode("(f3f)", "1 -6 -2 -6 -6");
        mode("(a m ix) b(g) c(:)", "7 -3 1 -9 3");
    }

    private static void plagal() {
        mode("(a d)", "2 -6 -4 -9 -6");
        mode("(b d)", "1 -6 -2 -8 -6");
        mode("(a i d)", "2 -6 -4 -9 -1");
        mode("(a j d)", "1 -6 -2 -9 0");
        mode("(b e)", "4 -5 -2 -8 -5");
        mode("(c e)", "3 -5 0 -7 -5");
        mode("(c f)", "6 -4 -2 -7 -4");
        mode("(d f)", "5 -4 0 -6 -4");
        mode("(d g)", "8 -3 0 -6 -3");
        mode("(d l g)", "8 -3 0 -6 2");
        mode("(d m g)", "7 -3 1 -6 3");
        mode("(d h)", "0 -2 -100 -6 -2");
        // By steps, not by heights: a clef may stand between.
        mode("(c4d c1 a)", "8 -3 0 -6 -3");
    }

    private static void wrong() {
        Chant x = Check.of("a(c4,z)");
        Check.due("modes without notes", Check.row(5, x::mode), "-103 -103 -103 -103 -103");
        Check.due("mode(5)", x.mode(5), -102);
        Check.due("mode(-1)", x.mode(-1), -102);
        Check.due("mode(5) with a note", Check.of("(f)").mode(5), -102);
    }
}
