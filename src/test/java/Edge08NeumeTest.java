/** Promise 8, neume: every row of ways, the longest, the single NOTE, and numbers out of bounds. */
public final class Edge08NeumeTest {
    private static final String[] TABLE = {"u", "d", "s", "uu", "dd", "ud", "du", "ss", "udu", "dud", "uud", "ddu",
        "udd", "uudd", "dduu"};

    public static void main(String[] args) {
        single();
        everyRow();
        longest();
        rangeOfWays();
        groupsApart();
        liquid();
        numbered();
        unknownAndOutside();
        refusedLeaves();
        nothingOfATextBefore();
        Check.finish();
    }

    private static String column(Chant x, int what) {
        return Check.row(x.count(3), i -> x.neume(i, what));
    }

    private static void kinds(String text, String want) {
        Check.due("neume(.., 0) of \"" + text + "\"", column(Check.of(text), 0), want);
    }

    private static void single() {
        Check.promise(8, "By these: none: 1, with v 2");
        kinds("(g)", "1");
        kinds("(gv)", "2");
        kinds("(g._w~)", "1");
        kinds("(g._vw~)", "2");
        kinds("(gv/g/gv)", "2 1 2");
        kinds("(gvhv)", "3");
        kinds("(efghv)", "6 2");
        kinds("(evfghv)", "6 2");
        kinds("(evfgh)", "6 1");
    }

    private static String groupOf(String ways) {
        StringBuilder group = new StringBuilder("g");
        int height = 6;
        for (char way : ways.toCharArray()) {
            height += way == 'u' ? 1 : way == 'd' ? -1 : 0;
            group.append((char) ('a' + height));
        }
        return group.toString();
    }

    /** The rows that a GROUP with these ways falls into, told by words of the document's table. */
    private static String[] cut(String ways) {
        StringBuilder kinds = new StringBuilder();
        StringBuilder notes = new StringBuilder();
        int from = 0;
        while (from <= ways.length()) {
            int kind = 1;
            int longest = 0;
            for (int i = 0; i < TABLE.length; i++) {
                if (ways.startsWith(TABLE[i], from) && TABLE[i].length() > longest) {
                    kind = i + 3;
                    longest = TABLE[i].length();
                }
            }
            kinds.append(from == 0 ? "" : " ").append(kind);
            notes.append(from == 0 ? "" : " ").append(longest + 1);
            from += longest + 1;
        }
        return new String[] {kinds.toString(), notes.toString()};
    }

    private static void everyWays(String ways, int left) {
        Chant x = Check.of("(" + groupOf(ways) + ")");
        String[] want = cut(ways);
        Check.due("neume(.., 0) of ways " + ways, column(x, 0), want[0]);
        Check.due("neume(.., 2) of ways " + ways, column(x, 2), want[1]);
        for (int i = 0; i < 3 && left > 0; i++) {
            everyWays(ways + "uds".charAt(i), left - 1);
        }
    }

    private static void everyRow() {
        Check.promise(8, "u 3, d 4, s 5. uu 6, dd 7, ud 8, du 9, ss 10. udu 11, dud 12, uud 13, ddu 14, udd 15. uudd 16, dduu 17");
        for (int i = 0; i < TABLE.length; i++) {
            Chant x = Check.of("(" + groupOf(TABLE[i]) + ")");
            Check.due("neume(0, 0) of " + TABLE[i], x.neume(0, 0), i + 3);
            Check.due("neume(0, 2) of " + TABLE[i], x.neume(0, 2), TABLE[i].length() + 1);
            Check.due("NEUMES of " + TABLE[i], x.count(3), 1);
        }
        Check.promise(8, "A GROUP falls into NEUMES from its first NOTE on: the longest row that is there, then again from behind it");
        everyWays("", 6);
    }

    private static void longest() {
        Check.promise(8, "the longest row that is there: 5 NOTES at most, 1 at least");
        kinds("(efgfe)", "16");
        kinds("(gfefg)", "17");
        kinds("(efgfed)", "16 1");
        kinds("(gfefgh)", "17 1");
        kinds("(efgfede)", "16 3");
        kinds("(efgfegfefg)", "16 17");
        kinds("(efgf)", "13");
        kinds("(gfef)", "14");
        kinds("(efgff)", "13 1");
        kinds("(gfeff)", "14 1");
        kinds("(ggh)", "5 1");
        kinds("(ghh)", "3 1");
        kinds("(gggg)", "10 1");
        Chant x = Check.of("(" + "g".repeat(150) + ")");
        Check.due("NEUMES of 150 NOTES that stay", x.count(3), 50);
        Check.due("the last of them", Check.row(4, what -> x.neume(49, what)), "10 147 3 0");
    }

    private static void rangeOfWays() {
        Check.promise(8, "it goes up (u), down (d), or stays (s): by one height or by twelve, FLATS or not");
        kinds("(am)", "3");
        kinds("(ma)", "4");
        kinds("(ab)", "3");
        kinds("(ba)", "4");
        kinds("(aa)", "5");
        kinds("(mm)", "5");
        kinds("(amama)", "11 1");
        kinds("(iixi)", "5");
        kinds("(jixi)", "4");
    }

    private static void groupsApart() {
        Check.promise(8, "From one NOTE of a GROUP to the next: none goes from GROUP to GROUP");
        for (String part : new String[] {"/", " ", "\n", ",", ";", ":", "::", "c4", "c1", "z", ")(", ") ("}) {
            kinds("(g" + part + "h)", "1 1");
            kinds("(gh" + part + "gh)", "3 3");
        }
        kinds("(ghxh)", "3");
        kinds("(ghyh)", "3");
    }

    private static void liquid() {
        Check.promise(8, "A NEUME is LIQUID, if its last NOTE has ~");
        liquid("(g)", "0");
        liquid("(g~)", "1");
        liquid("(gh~)", "1");
        liquid("(g~h)", "0");
        liquid("(g~h~)", "1");
        liquid("(e~f~g~f~e)", "0");
        liquid("(efgfe~)", "1");
        liquid("(efg~h)", "1 0");
        liquid("(efgh~)", "0 1");
        liquid("(g._vw)", "0");
        liquid("(g._vw~)", "1");
        liquid("(g/g~)", "0 1");
    }

    private static void liquid(String text, String want) {
        Check.due("neume(.., 3) of \"" + text + "\"", column(Check.of(text), 3), want);
    }

    private static void numbered() {
        Check.promise(8, "(they are numbered in order) .. its first NOTE (1), how many (2)");
        Chant x = Check.of("(g)a(gh/efgh) b()c(efgfe,g)");
        Check.due("kinds", column(x, 0), "1 3 6 1 16 1");
        Check.due("first NOTES", column(x, 1), "0 1 3 6 7 12");
        Check.due("how many", column(x, 2), "1 2 3 1 5 1");
        Chant y = Check.of("(" + "g/".repeat(150) + ")");
        Check.due("NEUMES", y.count(3), 150);
        Check.due("the last of 150", Check.row(4, what -> y.neume(149, what)), "1 149 1 0");
    }

    private static void unknownAndOutside() {
        Check.promise(8, "UNKNOWN; OUTSIDE, the first that fits");
        Check.bounds("neume", 0, 4, Check.of("a(gx,z)")::neume);
        Check.bounds("neume", 1, 4, Check.of("(efgfe)")::neume);
        Check.bounds("neume", 2, 4, Check.of("(efgfee)")::neume);
        Check.bounds("neume", 150, 4, Check.of("(" + "g/".repeat(150) + ")")::neume);
    }

    private static void refusedLeaves() {
        Check.promise(8, "UNKNOWN; OUTSIDE .. then nothing changes");
        Chant x = Check.busy();
        Check.refused(x, "neume(4, 0)", Check.UNKNOWN, () -> x.neume(4, 0));
        Check.refused(x, "neume(0, 4)", Check.OUTSIDE, () -> x.neume(0, 4));
        Check.tapeIs(x, "AB");
    }

    private static void nothingOfATextBefore() {
        Check.promise(8, "UNKNOWN (a number of a thing that there is not): of a text before this one");
        Chant x = Check.of("(gh~/gh~)");
        Check.read(x, "(g)");
        Check.due("its NEUME", Check.row(4, what -> x.neume(0, what)), "1 0 1 0");
        Check.bounds("neume", 1, 4, x::neume);
        Check.read(x, "(gg");
        Check.bounds("neume", 0, 4, x::neume);
    }
}
