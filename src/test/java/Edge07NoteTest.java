/** Promise 7, note: the lowest and the highest of each answer, where FLATS and GROUPS end, and bounds. */
public final class Edge07NoteTest {
    private static final String[] CLEFS = {"c1", "c2", "c3", "c4", "f1", "f2", "f3", "f4"};
    /** The height of the C that each clef tells of. */
    private static final int[] HEIGHTS_OF_C = {3, 5, 7, 9, 7, 9, 11, 13};
    /** The semitones of the steps from -13 to 9, written out. */
    private static final int[] SEMITONES = {-22, -20, -19, -17, -15, -13, -12, -10, -8, -7, -5, -3, -1,
        0, 2, 4, 5, 7, 9, 11, 12, 14, 16};

    public static void main(String[] args) {
        heights();
        marks();
        syllables();
        groups();
        neumes();
        clefs();
        clefStays();
        semitones();
        flats();
        flatsEnd();
        flatsStay();
        lengths();
        unknownAndOutside();
        refusedLeaves();
        nothingOfATextBefore();
        Check.finish();
    }

    private static void column(String text, int what, String want) {
        Chant x = Check.of(text);
        Check.due("note(.., " + what + ") of \"" + text + "\"", Check.row(x.count(1), i -> x.note(i, what)), want);
    }

    private static void heights() {
        Check.promise(7, "its height, a to m (0 to 12)");
        column("(a)", 0, "0");
        column("(m)", 0, "12");
        column("(abcdefghijklm)", 0, "0 1 2 3 4 5 6 7 8 9 10 11 12");
        // A height is the letter's, whatever the clef.
        column("(f1am c1am)", 0, "0 12 0 12");
    }

    private static void marks() {
        Check.promise(7, "MARKS added (1): . _ v w ~ (1, 2, 4, 8, 16)");
        column("(gg.g_gvgwg~)", 1, "0 1 2 4 8 16");
        column("(g._vw~g~wv_.)", 1, "31 31");
        column("(g.g)", 1, "1 0");
        column("(gg~)(g)", 1, "0 16 0");
    }

    private static void syllables() {
        Check.promise(7, "SYLLABLE (2)");
        column("(g)", 2, "0");
        column("a()b (g)c(g)", 2, "2 3");
        Chant x = Check.of("a ".repeat(59) + "(g)");
        Check.due("of the 60th", x.note(0, 2), 59);
    }

    private static void groups() {
        Check.promise(7, "GROUP (3, from 0 on in all); A / and blanks part GROUPS; so do BARS, CLEFS, ENDS, the )");
        String[] parting = {"/", " ", "\n", ",", ";", ":", "::", "c1", "f4", "z", ")(", ")a(", ") (", "//", " / ", "/gx"};
        for (String part : parting) {
            column("(e" + part + "e)", 3, "0 1");
        }
        Check.promise(7, "(FLATS, NATURALS do not)");
        for (String part : new String[] {"", "gx", "gy", "ex", "ey", "cxfx", "gxgygx"}) {
            column("(e" + part + "e)", 3, "0 0");
        }
        Check.promise(7, "GROUP .. from 0 on: what parts before the first NOTE and behind the last makes none");
        column("(/ /,c4zg/ /,c4z)", 3, "0");
        column("()(,)(gx)(e)()", 3, "0");
        Chant x = Check.of("(" + "g/".repeat(150) + ")");
        Check.due("GROUP of the 150th", x.note(149, 3), 149);
        Check.due("NEUME of the 150th", x.note(149, 4), 149);
    }

    private static void neumes() {
        Check.promise(7, "NEUME (4)");
        column("(g)", 4, "0");
        column("(ghg)", 4, "0 0 0");
        column("(efghi)", 4, "0 0 0 1 1");
        column("(e/e)(e)", 4, "0 1 2");
    }

    private static void clefs() {
        Check.promise(7, "Lines 1 to 4 are at heights 3, 5, 7, 9; The STEP of a height is what it is above the clef's line; with f 4 less");
        for (int c = 0; c < CLEFS.length; c++) {
            int zero = HEIGHTS_OF_C[c];
            column("(" + CLEFS[c] + "abcdefghijklm)", 5, Check.row(13, height -> height - zero));
        }
        column("(c1m)", 5, "9");
        column("(f4a)", 5, "-13");
        column("(c1d)(c2f)(c3h)(c4j)", 5, "0 0 0 0");
        column("(f1d)(f2f)(f3h)(f4j)", 5, "-4 -4 -4 -4");
    }

    private static void clefStays() {
        Check.promise(7, "The clef is c 4, till another one comes");
        column("(j)", 5, "0");
        column("(jc3h)(h) a(h) b (h,h;h:h::hzh)(f3h) (h)", 5, "0 0 0 0 0 0 0 0 0 0 -4 -4");
        Chant x = Check.of("(c1d)");
        Check.due("STEP", x.note(0, 5), 0);
        Check.read(x, "(d)");
        Check.due("STEP in the next text", x.note(0, 5), -6);
        Check.read(x, "(c1.");
        Check.read(x, "(d)");
        Check.due("STEP behind a fault", x.note(0, 5), -6);
    }

    private static void semitones() {
        Check.promise(7, "SEMITONES .. 12 times (STEP / 7) more; Quotients go down: floor");
        for (int c = 0; c < CLEFS.length; c++) {
            int zero = HEIGHTS_OF_C[c];
            column("(" + CLEFS[c] + "abcdefghijklm)", 6, Check.row(13, height -> SEMITONES[height - zero + 13]));
        }
        column("(f4a c1m)", 6, "-22 16");
        column("(c4ijk)", 6, "-1 0 2");
        column("(c4bcd)", 6, "-13 -12 -10");
        column("(c1jk)", 6, "11 12");
    }

    private static void flats() {
        Check.promise(7, "A FLAT makes the NOTES at its height behind it by 1 lower");
        for (int c = 0; c < CLEFS.length; c++) {
            int zero = HEIGHTS_OF_C[c];
            for (int height = 0; height <= 12; height++) {
                char letter = (char) ('a' + height);
                int plain = SEMITONES[height - zero + 13];
                column("(" + CLEFS[c] + letter + letter + "x" + letter + ")", 6, plain + " " + (plain - 1));
            }
        }
        // At its height alone, and not the octave above or below; the STEP and the height stay.
        column("(axbh)", 6, "-13 -3");
        column("(hxagm)", 6, "-15 -5 5");
        column("(mxlm)", 6, "4 4");
        column("(ixi)", 5, "-1");
        column("(ixi)", 0, "8");
        column("(ixixi)", 6, "-2");
        column("(axbxcxdxexfxgxhxixjxkxlxmxabcdefghijklm)", 6, "-16 -14 -13 -11 -9 -8 -6 -4 -2 -1 1 3 4");
    }

    private static void flatsEnd() {
        Check.promise(7, "till a NATURAL at that height, a BAR, a CLEF, or the end of the WORD");
        for (String end : new String[] {"iy", ",", ";", ":", "::", "c4", ") (", ")\n(", ") a b(", ",ixiy"}) {
            column("(ixi" + end + "i)", 6, "-2 -1");
        }
        // Of every height, the lowest and the highest too.
        String all = "axbxcxdxexfxgxhxixjxkxlxmx";
        for (String end : new String[] {all.replace('x', 'y'), ",", ";", ":", "::", "c4", ") (", ")\n("}) {
            column("(" + all + end + "abcdefghijklm)", 6, "-15 -13 -12 -10 -8 -7 -5 -3 -1 0 2 4 5");
        }
        column("(ixic3i)", 6, "-2 2");
        column("(ixif4i)", 6, "-2 -8");
        column("(axmxiyamayamaxam)", 6, "-16 4 -15 4 -16 4");
        column("(ixixiyi)", 6, "-1");
        column("(ix) (i)", 6, "-1");
        column("(ix,ixi)", 6, "-2");
        Chant x = Check.of("(ixi)");
        Check.read(x, "(i)");
        Check.due("SEMITONES in the next text", x.note(0, 6), -1);
        Check.read(x, "(ixi");
        Check.read(x, "(i)");
        Check.due("SEMITONES behind a fault", x.note(0, 6), -1);
    }

    private static void flatsStay() {
        Check.promise(7, "till .. that height: nothing else ends it");
        for (String stay : new String[] {"hy", "jy", "by", "z", "/", " ", "\n", ")(", ")a(", ")a()b'(", "hx", "ix", "hij"}) {
            Chant x = Check.of("(ixi" + stay + "i)");
            Check.due("SEMITONES of the last NOTE behind \"" + stay + "\"", x.note(x.count(1) - 1, 6), -2);
        }
    }

    private static void lengths() {
        Check.promise(7, "LENGTH is 2; with . 2 more, with _ 1 more; with ~ 1 less");
        column("(g/g./g_/g._/g~/g.~/g_~/g._~/gv/gw/gvw)", 7, "2 4 3 5 1 3 2 4 2 2 2");
        Check.promise(7, "1 more, if the next NOTE of its GROUP has w");
        column("(ggw)", 7, "3 2");
        column("(g._gw)", 7, "6 2");
        column("(g~gw)", 7, "2 2");
        column("(g._vw~gw)", 7, "5 2");
        column("(gwgwgw)", 7, "3 3 2");
        column("(gggw)", 7, "2 3 2");
        column("(gwg)", 7, "2 2");
        column("(ggv)", 7, "2 2");
        column("(ggxgw)", 7, "3 2");
        // Across NEUMES of a GROUP too, but not across GROUPS.
        column("(efghw)", 7, "2 2 3 2");
        for (String part : new String[] {"/", " ", ",", "c4", "z", ")(", ") ("}) {
            column("(g" + part + "gw)", 7, "2 2");
        }
        Chant x = Check.of("(ggw)");
        Check.read(x, "(g)");
        Check.due("LENGTH of the last NOTE, behind a longer text", x.note(0, 7), 2);
    }

    private static void unknownAndOutside() {
        Check.promise(7, "UNKNOWN; OUTSIDE, the first that fits");
        Check.bounds("note", 0, 8, Check.of("a(gx,z)")::note);
        Check.bounds("note", 1, 8, Check.of("(g)")::note);
        Check.bounds("note", 3, 8, Check.of("(g)a b(gg)")::note);
        Check.bounds("note", 150, 8, Check.of("(" + "g".repeat(150) + ")")::note);
    }

    private static void refusedLeaves() {
        Check.promise(7, "UNKNOWN; OUTSIDE .. then nothing changes");
        Chant x = Check.busy();
        Check.refused(x, "note(4, 0)", Check.UNKNOWN, () -> x.note(4, 0));
        Check.refused(x, "note(0, 8)", Check.OUTSIDE, () -> x.note(0, 8));
        Check.tapeIs(x, "AB");
    }

    private static void nothingOfATextBefore() {
        Check.promise(7, "UNKNOWN (a number of a thing that there is not): of a text before this one");
        Chant x = Check.of("a(c3h._vw~h)(hh)");
        Check.read(x, "(g)");
        Check.due("its NOTE", Check.row(8, what -> x.note(0, what)), "6 0 0 0 0 -3 -5 2");
        Check.bounds("note", 1, 8, x::note);
        Check.read(x, "(gg");
        Check.bounds("note", 0, 8, x::note);
    }
}
