/** Promise 10, guide: the lowest and the highest height, those beside them, none, and numbers out of bounds. */
public final class Edge10GuideTest {
    public static void main(String[] args) {
        everyClef();
        lowestAndHighest();
        noNext();
        theNextNote();
        clefAtTheEnd();
        allTwenty();
        unknown();
        refusedLeaves();
        nothingOfATextBefore();
        Check.finish();
    }

    private static void guides(String text, String want) {
        Chant x = Check.of(text);
        Check.due("guides of \"" + text + "\"", Check.row(x.count(5), x::guide), want);
    }

    private static void everyClef() {
        Check.promise(10, "the height, by the clef at that END, of the STEP that the next NOTE has (NONE: .. the height is not 0 to 12)");
        String[] clefs = {"c1", "c2", "c3", "c4", "f1", "f2", "f3", "f4"};
        int[] heightsOfC = {3, 5, 7, 9, 7, 9, 11, 13};
        for (int at = 0; at < 8; at++) {
            for (int behind = 0; behind < 8; behind++) {
                for (int height = 0; height <= 12; height++) {
                    int guide = height - heightsOfC[behind] + heightsOfC[at];
                    String text = "(" + clefs[at] + "z" + clefs[behind] + (char) ('a' + height) + ")";
                    guides(text, String.valueOf(guide >= 0 && guide <= 12 ? guide : Check.NONE));
                }
            }
        }
    }

    private static void lowestAndHighest() {
        Check.promise(10, "the height is not 0 to 12");
        guides("(zc4a)", "0");
        guides("(zc4m)", "12");
        guides("(c3zc4c)", "0");
        guides("(c3zc4b)", "-100");
        guides("(c3zc4a)", "-100");
        guides("(c4zc3k)", "12");
        guides("(c4zc3l)", "-100");
        guides("(c4zc3m)", "-100");
        guides("(f4zc1m)", "-100");
        guides("(c1zf4a)", "-100");
    }

    private static void noNext() {
        Check.promise(10, "NONE: there is no next one");
        guides("(z)", "-100");
        guides("(gz)", "-100");
        guides("(gz) a b(,gxgyc1)", "-100");
        guides("(gzgzz)", "6 -100 -100");
    }

    private static void theNextNote() {
        Check.promise(10, "the next NOTE, wherever it stands");
        guides("(zg)", "6");
        guides("(gzhi)", "7");
        guides("(z) a b() (,)c(gx h)", "7");
        guides("(zzg)", "6 6");
        guides("(zgzh)", "6 7");
        // A FLAT lowers no STEP.
        guides("(zixi)", "8");
    }

    private static void clefAtTheEnd() {
        Check.promise(10, "by the clef at that END");
        guides("(zj)", "9");
        guides("(c1zd)", "3");
        guides("(zc1d)", "9");
        guides("(c1zc4j)", "3");
        guides("(zc3zc2zc1d)", "9 7 5");
        guides("(c1 c4 z c1 d)", "9");
    }

    private static void allTwenty() {
        Check.promise(10, "of each END, up to the 20th");
        guides("(" + "z".repeat(20) + "g)", "6" + " 6".repeat(19));
        guides("(" + "gz".repeat(20) + ")", "6 ".repeat(19) + "-100");
    }

    private static void unknown() {
        Check.promise(10, "UNKNOWN");
        int[] ends = {0, 1, 2, 20};
        for (int count : ends) {
            Chant x = Check.of("(" + "z".repeat(count) + "g)");
            for (int i : new int[] {-1, count, count + 1, Check.MIN, Check.MAX}) {
                Check.due("guide(" + i + ") of " + count, x.guide(i), Check.UNKNOWN);
            }
        }
    }

    private static void refusedLeaves() {
        Check.promise(10, "UNKNOWN .. then nothing changes");
        Chant x = Check.busy();
        Check.refused(x, "guide(1)", Check.UNKNOWN, () -> x.guide(1));
        Check.refused(x, "guide(-1)", Check.UNKNOWN, () -> x.guide(-1));
        Check.tapeIs(x, "AB");
    }

    private static void nothingOfATextBefore() {
        Check.promise(10, "UNKNOWN (a number of a thing that there is not): of a text before this one");
        Chant x = Check.of("(c1gzgz)");
        Check.read(x, "(z)");
        Check.due("guide(0)", x.guide(0), Check.NONE);
        Check.due("guide(1)", x.guide(1), Check.UNKNOWN);
        Check.read(x, "(z");
        Check.due("guide(0) behind a fault", x.guide(0), Check.UNKNOWN);
    }
}
