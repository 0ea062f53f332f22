/** Promise 9, bar: each KIND, one colon and two, none and all NOTES before it, and numbers out of bounds. */
public final class Edge09BarTest {
    public static void main(String[] args) {
        kinds();
        colons();
        notesBefore();
        unknownAndOutside();
        refusedLeaves();
        nothingOfATextBefore();
        Check.finish();
    }

    private static void column(String text, int what, String want) {
        Chant x = Check.of(text);
        Check.due("bar(.., " + what + ") of \"" + text + "\"", Check.row(x.count(4), i -> x.bar(i, what)), want);
    }

    private static void kinds() {
        Check.promise(9, "its KIND (what = 0): , (1) ; (2) : (3) or :: (4)");
        column("(,)", 0, "1");
        column("(;)", 0, "2");
        column("(:)", 0, "3");
        column("(::)", 0, "4");
        column("(,;:,::)", 0, "1 2 3 1 4");
        column("a(g)", 0, "");
    }

    private static void colons() {
        Check.promise(9, ": (3) or :: (4): two that stand together are one BAR, a third is the next one's");
        column("(:::)", 0, "4 3");
        column("(::::)", 0, "4 4");
        column("(:::::)", 0, "4 4 3");
        column("(: :)", 0, "3 3");
        column("(:/:)", 0, "3 3");
        column("(:\n::)", 0, "3 4");
        column("(::/:)", 0, "4 3");
        column("(:)(:)", 0, "3 3");
        column("(:g:)", 0, "3 3");
        column("(:z:gx:c4:)", 0, "3 3 3 3");
    }

    private static void notesBefore() {
        Check.promise(9, "how many NOTES stand before it (1)");
        column("(,)", 1, "0");
        column("(,g)", 1, "0");
        column("(g,)", 1, "1");
        column("(,g;gg:)a b(::)", 1, "0 1 3 3");
        column("(gxgyc4z,)", 1, "0");
        column("(" + "g".repeat(150) + ")(,)", 1, "150");
        column("(" + ",".repeat(30) + ")", 1, "0" + " 0".repeat(29));
        column("(" + "g,".repeat(30) + ")", 1, Check.row(30, i -> i + 1));
    }

    private static void unknownAndOutside() {
        Check.promise(9, "UNKNOWN; OUTSIDE, the first that fits");
        Check.bounds("bar", 0, 2, Check.of("a(gz)")::bar);
        Check.bounds("bar", 1, 2, Check.of("(::)")::bar);
        Check.bounds("bar", 2, 2, Check.of("(:::)")::bar);
        Check.bounds("bar", 30, 2, Check.of("(" + ",".repeat(30) + ")")::bar);
    }

    private static void refusedLeaves() {
        Check.promise(9, "UNKNOWN; OUTSIDE .. then nothing changes");
        Chant x = Check.busy();
        Check.refused(x, "bar(1, 0)", Check.UNKNOWN, () -> x.bar(1, 0));
        Check.refused(x, "bar(0, 2)", Check.OUTSIDE, () -> x.bar(0, 2));
        Check.tapeIs(x, "AB");
    }

    private static void nothingOfATextBefore() {
        Check.promise(9, "UNKNOWN (a number of a thing that there is not): of a text before this one");
        Chant x = Check.of("(gg::,,)");
        Check.read(x, "(;)");
        Check.due("its BAR", Check.row(2, what -> x.bar(0, what)), "2 0");
        Check.bounds("bar", 1, 2, x::bar);
        Check.read(x, "(;");
        Check.bounds("bar", 0, 2, x::bar);
    }
}
