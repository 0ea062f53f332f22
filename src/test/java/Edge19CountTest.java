/** Promise 19, count: each count of nothing, of one and of as many as there can be, and numbers out of bounds. */
public final class Edge19CountTest {
    public static void main(String[] args) {
        nothing();
        mostSyllables();
        mostNotes();
        mostOfTheOthers();
        tape();
        withoutNotes();
        outside();
        refusedLeaves();
        Check.finish();
    }

    private static void counts(String text, String want) {
        Check.due("counts of \"" + text + "\"", Check.row(9, Check.of(text)::count), want);
    }

    private static void nothing() {
        Check.promise(19, "each of a text of nothing: 0");
        Check.due("counts of a new object", Check.row(9, new Chant()::count), "0 0 0 0 0 0 0 0 0");
        counts("", "0 0 0 0 0 0 0 0 0");
        counts(" \n ", "0 0 0 0 0 0 0 0 0");
        counts("a", "1 0 0 0 0 0 1 0 1");
        counts("()", "1 0 0 0 0 0 1 0 1");
        counts("(g)", "1 1 1 1 0 0 1 0 0");
        counts("(,)", "1 0 0 0 1 0 1 0 1");
        counts("(z)", "1 0 0 0 0 1 1 0 1");
        counts("(c4gxgy/ )", "1 0 0 0 0 0 1 0 1");
        Chant x = Check.of("a(g,z)");
        Check.read(x, "a(g,z");
        Check.due("counts behind a fault", Check.row(9, x::count), "0 0 0 0 0 0 0 0 0");
    }

    private static void mostSyllables() {
        Check.promise(19, "0 SYLLABLES, 6 WORDS: 60 at most");
        counts("a ".repeat(60), "60 0 0 0 0 0 60 0 60");
        counts("a ".repeat(59), "59 0 0 0 0 0 59 0 59");
        counts("()".repeat(60), "60 0 0 0 0 0 1 0 60");
        counts("(g)".repeat(60), "60 60 60 60 0 0 1 0 0");
        counts("(g) ".repeat(60), "60 60 60 60 0 0 60 0 0");
    }

    private static void mostNotes() {
        Check.promise(19, "1 NOTES, 2 GROUPS, 3 NEUMES: 150 at most");
        counts("(" + "g/".repeat(150) + ")", "1 150 150 150 0 0 1 0 0");
        counts("(" + "g".repeat(150) + ")", "1 150 1 50 0 0 1 0 0");
        counts("(" + "efgfe/".repeat(30) + ")", "1 150 30 30 0 0 1 0 0");
        counts("(" + "efgfe".repeat(30) + ")", "1 150 1 30 0 0 1 0 0");
        counts("(g/g)(g)", "2 3 3 3 0 0 1 0 0");
        counts("(g//g / g,g)", "1 4 4 4 1 0 1 0 0");
    }

    private static void mostOfTheOthers() {
        Check.promise(19, "4 BARS: 30 at most, 5 ENDS: 20 at most");
        counts("(" + ",".repeat(30) + ")", "1 0 0 0 30 0 1 0 1");
        counts("(" + "::".repeat(30) + ")", "1 0 0 0 30 0 1 0 1");
        counts("(" + "z".repeat(20) + ")", "1 0 0 0 0 20 1 0 1");
        counts("(" + "z,".repeat(20) + ",".repeat(10) + ")", "1 0 0 0 30 20 1 0 1");
        counts("(" + "c4gxgy".repeat(20) + ")", "1 0 0 0 0 0 1 0 1");
    }

    private static void tape() {
        Check.promise(19, "7 bytes of the tape: 0 to 1,500");
        Chant x = new Chant();
        for (int i = 0; i <= 75; i++) {
            Check.due("count(7)", x.count(7), 20 * i);
            x.feed(0x20202020, 0x20202020, 0x20202020, 0x20202020, 0x20202020);
        }
        Check.due("count(7) behind a refused feed()", x.count(7), 1500);
        x.end(1499);
        Check.due("count(7) behind end(1499)", x.count(7), 1499);
        x.end(1500);
        Check.due("count(7) behind a refused end()", x.count(7), 1499);
        x.end(0);
        Check.due("count(7) behind end(0)", x.count(7), 0);
        Chant y = Check.of("a(g,z)");
        y.feed(0, 0, 0, 0, 0);
        Check.due("counts with a text and a tape", Check.row(9, y::count), "1 1 1 1 1 1 1 20 0");
        y.read();
        Check.due("counts behind a fault", Check.row(9, y::count), "0 0 0 0 0 0 0 0 0");
    }

    private static void withoutNotes() {
        Check.promise(19, "8 SYLLABLES without NOTES: none, some, all");
        counts("(g)(g)", "2 2 2 2 0 0 1 0 0");
        counts("(g)a(g)b()", "3 2 2 2 0 0 1 0 1");
        counts("a b", "2 0 0 0 0 0 2 0 2");
        counts("(gx)(,)(z)(c4)(gy)", "5 0 0 0 1 1 1 0 5");
        counts("(g) a".concat(" a".repeat(58)), "60 1 1 1 0 0 60 0 59");
    }

    private static void outside() {
        Check.promise(19, "OUTSIDE");
        Chant x = Check.of("a(g,z)b");
        for (int what : new int[] {-1, 9, 10, Check.MIN, Check.MAX}) {
            Check.due("count(" + what + ")", x.count(what), Check.OUTSIDE);
            Check.due("count(" + what + ") of a new object", new Chant().count(what), Check.OUTSIDE);
        }
        Check.due("count(0)", x.count(0), 2);
        Check.due("count(8)", x.count(8), 1);
    }

    private static void refusedLeaves() {
        Check.promise(19, "OUTSIDE .. then nothing changes");
        Chant x = Check.busy();
        Check.refused(x, "count(9)", Check.OUTSIDE, () -> x.count(9));
        Check.refused(x, "count(-1)", Check.OUTSIDE, () -> x.count(-1));
        Check.tapeIs(x, "AB");
    }
}
