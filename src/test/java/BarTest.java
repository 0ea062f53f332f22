/** Promises 9 (bar) and 10 (guide). */
public final class BarTest {
    public static void main(String[] args) {
        bars();
        guides();
        Check.finish();
    }

    private static void bars() {
        Chant x = Check.of("(,f;gh)a(: ::i:::)");
        Check.due("count(4)", x.count(4), 6);
        Check.due("kinds", Check.row(6, i -> x.bar(i, 0)), "1 2 3 4 4 3");
        Check.due("notes before", Check.row(6, i -> x.bar(i, 1)), "0 1 3 3 4 4");
        Check.due("bar(6, 0)", x.bar(6, 0), -101);
        Check.due("bar(-1, 2)", x.bar(-1, 2), -101);
        Check.due("bar(0, 2)", x.bar(0, 2), -102);
        Check.due("bar(0, -1)", x.bar(0, -1), -102);
    }

    private static void guides(String text, String want) {
        Chant x = Check.of(text);
        Check.due("guides of \"" + text + "\"", Check.row(x.count(5), x::guide), want);
        Check.due("guide behind the last", x.guide(x.count(5)), -101);
        Check.due("guide(-1)", x.guide(-1), -101);
    }

    private static void guides() {
        guides("(fzgz)", "6 -100");
        guides("(f z) a b(:) c(,h)", "7");
        guides("(zzf)", "5 5");
        guides("(c4fz c3f)", "7");
        guides("(c3fz c4f)", "3");
        guides("(zf4f c1z)", "1 -100");
        guides("(zf4e)", "0");
        guides("(zf4d)", "-100");
        guides("(zc3k zc3l zc3m)", "12 11 12");
        guides("(c4 z c3 k c4 z c3 l)", "12 -100");
        guides("(f3 z c3 h)", "11");
        guides("(z c2 z c4 f)", "5 1");
        guides("(c4z ix i)", "8");
        guides("()", "");
    }
}
