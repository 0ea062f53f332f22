/** Promise 7: note. */
public final class NoteTest {
    public static void main(String[] args) {
        plain();
        marks();
        clefs();
        flats();
        lengths();
        groups();
        wrong();
        Check.finish();
    }

    private static String all(Chant x, int what) {
        return Check.row(x.count(1), i -> x.note(i, what));
    }

    private static void column(String text, int what, String want) {
        Check.due("note(.., " + what + ") of \"" + text + "\"", all(Check.of(text), what), want);
    }

    private static void plain() {
        column("(abcdefghijklm)", 0, "0 1 2 3 4 5 6 7 8 9 10 11 12");
        column("(abcdefghijklm)", 5, "-9 -8 -7 -6 -5 -4 -3 -2 -1 0 1 2 3");
        column("(abcdefghijklm)", 6, "-15 -13 -12 -10 -8 -7 -5 -3 -1 0 2 4 5");
        column("a(f)b (gh)(m)c d(a)", 2, "0 2 2 3 5");
    }

    private static void marks() {
        column("(a a. a_ av aw a~ a._vw~ a~wv_. a~.)", 1, "0 1 2 4 8 16 31 31 17");
    }

    private static void clefs() {
        column("(jc1d c2f c3h c4j f1d f2f f3h f4j)", 5, "0 0 0 0 0 -4 -4 -4 -4");
        column("(jc1d c2f c3h c4j f1d f2f f3h f4j)", 6, "0 0 0 0 0 -7 -7 -7 -7");
        column("(c1a c1m f4a f4m)", 5, "-3 9 -13 -1");
        column("(c1a c1m f4a f4m)", 6, "-5 16 -22 -1");
        column("a(f3h) b(h) c(hc3h)", 5, "-4 -4 -4 0");
    }

    private static void flats() {
        column("(iixihi)", 6, "-1 -2 -3 -2");
        column("(iixihi)", 5, "-1 -1 -2 -1");
        column("(ix i iy i)", 6, "-2 -1");
        column("(ix i hy i)", 6, "-2 -2");
        column("(ix ix i iy i)", 6, "-2 -1");
        column("(ix i,i ix i;i ix i:i ix i::i)", 6, "-2 -1 -2 -1 -2 -1 -2 -1");
        column("(ix i c4 i)", 6, "-2 -1");
        column("(ix i f3 i)", 6, "-2 -5");
        column("(ix i z i / i)", 6, "-2 -2 -2");
        column("a(ix)b(i)c(\n i)(i) d(i)", 6, "-2 -2 -2 -1");
        column("a(ix)\nd(i)", 6, "-1");
        column("(axmx a m i ay a m)", 6, "-16 4 -1 -15 4");
    }

    private static void lengths() {
        column("(f f. f_ fv fw f~ f._ f.~ f_~ f._vw~)", 7, "2 4 3 2 2 1 5 3 2 4");
        column("(ffwf)", 7, "3 2 2");
        column("(f.fw.f~fw)", 7, "5 4 2 2");
        column("(f/fw)", 7, "2 2");
        column("(f)(fw)", 7, "2 2");
        column("(f,fw fzfw fc4fw)", 7, "2 2 2 2 2 2");
        column("(fgxfw fgyfw)", 7, "3 2 3 2");
    }

    private static void groups() {
        column("(fg/h i,j;kzl c4m)(ab)c (d)", 3, "0 0 1 2 3 4 5 6 7 7 8");
        column("(//fg//  /h , i)", 3, "0 0 1 2");
        column("(fhxghyi)", 3, "0 0 0");
        column("(f hx g)", 3, "0 1");
        column("(fghgf hh / gfg)(fg)", 4, "0 0 0 0 0 1 1 2 2 2 3 3");
    }

    private static void wrong() {
        Chant x = Check.of("(fg)");
        Check.due("note(2, 0)", x.note(2, 0), -101);
        Check.due("note(-1, 0)", x.note(-1, 0), -101);
        Check.due("note(2, 8)", x.note(2, 8), -101);
        Check.due("note(MIN, 0)", x.note(Integer.MIN_VALUE, 0), -101);
        Check.due("note(0, 8)", x.note(0, 8), -102);
        Check.due("note(0, -1)", x.note(0, -1), -102);
        Check.due("note(0, MAX)", x.note(0, Integer.MAX_VALUE), -102);
    }
}
