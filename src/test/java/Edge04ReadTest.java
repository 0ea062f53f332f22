import java.util.ArrayList;
import java.util.List;

/** Promise 4, read: every byte at every kind of place, every limit, and what a read leaves. */
public final class Edge04ReadTest {
    private static final String HEIGHTS = "abcdefghijklm";
    private static final String LETTERS = "abcdefghijklmnopqrstuvwxyzABCDEFGHIJKLMNOPQRSTUVWXYZ'";
    private static final String MARKS = "._vw~";
    private static final String NEW_SIGN = HEIGHTS + "z,;:/) \n";

    public static void main(String[] args) {
        emptyAndFull();
        blanks();
        outsideBrackets();
        insideBrackets();
        lines();
        flatsAndNaturals();
        textsEnd();
        marksOnce();
        limits();
        limitsOfATextNotOfItsParts();
        limitsOfEachReading();
        firstFault();
        howManyNotes();
        tapeIsEmptyThen();
        textIsNothingThen();
        nothingStandsBeforeAText();
        Check.finish();
    }

    private static void reads(String text, int notes) {
        Check.reads(new Chant(), text, notes);
    }

    private static void faults(String text, int fault, int place) {
        Check.faults(new Chant(), text, fault, place);
    }

    private static void emptyAndFull() {
        Check.promise(4, "A TEXT (bytes; 1,500 at most)");
        reads("", 0);
        reads("a".repeat(1500), 0);
        reads(" ".repeat(1500), 0);
        reads("a".repeat(1497) + "(m)", 1);
        faults("a".repeat(1499) + ")", 1, 1499);
        faults("a".repeat(1499) + "(", 1, 1500);
        faults("(" + " ".repeat(1499), 1, 1500);
        faults("(" + "/".repeat(1497) + "g(", 1, 1499);
    }

    private static void blanks() {
        Check.promise(4, "blanks (32, 10) between WORDS, as many as there are");
        for (String gap : new String[] {" ", "\n", "  ", "\n\n", " \n \n", " ".repeat(1498)}) {
            Chant x = Check.of("a" + gap + "b");
            Check.due("WORDS with " + gap.length() + " blanks between", x.count(6), 2);
            Check.due("SYLLABLES", x.count(0), 2);
        }
        Check.due("WORDS without a blank", Check.of("a()b").count(6), 1);
        for (int b : new int[] {0, 9, 11, 12, 13, 31, 33, 133, 160}) {
            faults("a" + (char) b + "b", 1, 1);
            faults("(g" + (char) b + "g)", 1, 2);
        }
    }

    /** Every byte behind what stands before it: taken, or fault 1 (of a MARK that is there: 3) at it. */
    private static void everyByte(String before, String taken, String twice, String close) {
        for (int b = 0; b < 256; b++) {
            char c = (char) b;
            String text = before + c;
            if (taken.indexOf(c) >= 0) {
                Chant x = new Chant();
                int answer = Check.read(x, text + (c == ')' ? "" : c == '(' ? ")" : close));
                Check.due("read() of \"" + before + "\" and byte " + b, Math.min(answer, 0), 0);
                Check.due("place() of \"" + before + "\" and byte " + b, x.place(), Check.NONE);
            } else {
                faults(text + close, twice.indexOf(c) >= 0 ? 3 : 1, before.length());
            }
        }
    }

    private static void outsideBrackets() {
        Check.promise(4, "LETTERS (a to z, A to Z, and ').. then perhaps ( SIGNS ); FAULTS: 1 a byte that can not stand there");
        for (String before : new String[] {"", "a", "Z", "'", "()", "(f)", "(f)b", " ", "\n", "a b\n"}) {
            everyByte(before, LETTERS + "( \n", "", "");
        }
    }

    private static void insideBrackets() {
        Check.promise(4, "SIGNS: a NOTE: its height, a to m .. MARKS .. FAULTS: 1 a byte that can not stand there");
        for (String before : new String[] {"(", "a(", "(/", "( ", "(\n", "(,", "(;", "(:", "(::", "(z", "(g/", "(g ", "(zz"}) {
            everyByte(before, NEW_SIGN, "", ")");
        }
        for (char height : HEIGHTS.toCharArray()) {
            String lines = height == 'c' || height == 'f' ? "1234" : "";
            everyByte("(" + height, NEW_SIGN + MARKS + "xy" + lines, "", ")");
        }
        for (char mark : MARKS.toCharArray()) {
            String others = MARKS.replace(String.valueOf(mark), "");
            everyByte("(g" + mark, NEW_SIGN + others, String.valueOf(mark), ")");
            everyByte("(c" + mark, NEW_SIGN + others, String.valueOf(mark), ")");
        }
        everyByte("(g._vw~", NEW_SIGN, MARKS, ")");
        everyByte("(g~wv_", NEW_SIGN + ".", "~wv_", ")");
    }

    private static void lines() {
        Check.promise(4, "A CLEF: c or f and its line, 1 to 4 .. another digit can not stand there");
        for (char clef : new char[] {'c', 'f'}) {
            for (char digit = '0'; digit <= '9'; digit++) {
                if (digit >= '1' && digit <= '4') {
                    reads("(" + clef + digit + ")", 0);
                    everyByte("(" + clef + digit, NEW_SIGN, "", ")");
                } else {
                    faults("(" + clef + digit + ")", 1, 2);
                }
                faults("(" + clef + "." + digit + ")", 1, 3);
                faults("(" + clef + " " + digit + ")", 1, 3);
                faults("(" + clef + "x" + digit + ")", 1, 3);
                faults("(" + digit + ")", 1, 1);
            }
            // What stands beside the digits among the bytes can stand there: c is a NOTE then.
            reads("(" + clef + "/)", 1);
            reads("(" + clef + ":)", 1);
            reads("(" + clef + ")", 1);
            reads("(" + clef + clef + ")", 2);
            reads("(" + clef + clef + "4)", 1);
        }
    }

    private static void flatsAndNaturals() {
        Check.promise(4, "behind a height x, y, as first thing");
        for (char height : HEIGHTS.toCharArray()) {
            for (char sign : new char[] {'x', 'y'}) {
                reads("(" + height + sign + ")", 0);
                everyByte("(" + height + sign, NEW_SIGN, "", ")");
                for (char mark : MARKS.toCharArray()) {
                    faults("(" + height + mark + sign + ")", 1, 3);
                }
                faults("(" + height + "/" + sign + ")", 1, 3);
                faults("(" + height + " " + sign + ")", 1, 3);
            }
        }
        faults("(nx)", 1, 1);
        faults("(`x)", 1, 1);
        faults("(zx)", 1, 2);
        faults("(c4x)", 1, 3);
    }

    private static void textsEnd() {
        Check.promise(4, "of the text's end: at its length");
        String[] open = {"(", "a(", "(g", "(c", "(f", "(c4", "(g.", "(g._vw~", "(gx", "(gy", "(,", "(;", "(:", "(::",
            "(z", "(/", "( ", "(\n", "a(f) b(", "a b (g\n"};
        for (String text : open) {
            faults(text, 1, text.length());
        }
        for (String text : new String[] {"a", "'", "()", "a(g)", "a ", "a(g)\n"}) {
            Check.due("place() of \"" + text + "\"", Check.of(text).place(), Check.NONE);
        }
    }

    private static void marksOnce() {
        Check.promise(4, "MARKS, each at most once, in any order .. 3 a MARK that the NOTE has (at it)");
        for (String order : orders(MARKS)) {
            Chant x = Check.of("(g" + order + ")");
            Check.due("MARKS of " + order, x.note(0, 1), 31);
            for (int i = 0; i < 5; i++) {
                faults("(g" + order + order.charAt(i) + ")", 3, 7);
            }
        }
        for (char mark : MARKS.toCharArray()) {
            faults("(g" + mark + mark + ")", 3, 3);
            reads("(g" + mark + "g" + mark + ")", 2);
            reads("(g" + mark + "/g" + mark + ")(g" + mark + ")", 3);
            faults("(g" + mark + "g" + mark + mark + ")", 3, 5);
        }
    }

    private static List<String> orders(String of) {
        List<String> all = new ArrayList<>();
        if (of.isEmpty()) {
            all.add("");
        }
        for (int i = 0; i < of.length(); i++) {
            for (String rest : orders(of.substring(0, i) + of.substring(i + 1))) {
                all.add(of.charAt(i) + rest);
            }
        }
        return all;
    }

    /** As many as are taken, and one more: at its first byte, whatever comes behind it. */
    private static void limit(String open, String one, int most, String close, int notesOfOne) {
        reads(open + one.repeat(most - 1) + close, notesOfOne * (most - 1));
        reads(open + one.repeat(most) + close, notesOfOne * most);
        faults(open + one.repeat(most + 1) + close, 2, open.length() + most * one.length());
        faults(open + one.repeat(most + 2) + close, 2, open.length() + most * one.length());
    }

    private static void limits() {
        Check.promise(4, "2 too many, at its first byte: the 61st SYLLABLE");
        limit("", "abc ", 60, "", 0);
        limit("", "'\n", 60, "", 0);
        limit("", "()", 60, "", 0);
        limit("\n", "ab(g)", 60, "\n", 1);
        Check.promise(4, "2 too many, at its first byte: 151st NOTE");
        for (String note : new String[] {"a", "m", "c", "f", "g.", "c~", "g_./", "f "}) {
            limit("(", note, 150, ")", 1);
        }
        Check.promise(4, "2 too many, at its first byte: 31st BAR");
        for (String bar : new String[] {",", ";", ":/", "::", ", "}) {
            limit("(", bar, 30, ")", 0);
        }
        limit("(", ",;", 15, ")", 0);
        limit("(", "::,:/", 10, ")", 0);
        Check.promise(4, "2 too many, at its first byte: 21st END");
        limit("(", "z", 20, ")", 0);
        limit("(/", "z/", 20, ")", 0);
        Check.promise(4, "2 too many, at its first byte: 21st CLEF");
        for (String clef : new String[] {"c1", "c4", "f1", "f4", "c4 "}) {
            limit("(", clef, 20, ")", 0);
        }
        limit("(", "c4f3", 10, ")", 0);
        Check.promise(4, "2 too many, at its first byte: 21st FLAT");
        for (String flat : new String[] {"ax", "mx", "cx", "fx"}) {
            limit("(", flat, 20, ")", 0);
        }
        Check.promise(4, "2 too many, at its first byte: 21st NATURAL");
        for (String natural : new String[] {"ay", "my", "cy", "fy"}) {
            limit("(", natural, 20, ")", 0);
        }
    }

    private static void limitsOfATextNotOfItsParts() {
        Check.promise(4, "too many in the text, however it is parted");
        String tens = "a(abcdefghij)";
        reads(tens.repeat(15), 150);
        faults(tens.repeat(15) + " b(g)", 2, 15 * 13 + 3);
        reads("(,)b ".repeat(30), 0);
        faults("(,)b ".repeat(29) + "(:)(;)", 2, 29 * 5 + 4);
        reads("(z)".repeat(20), 0);
        faults("(z)".repeat(21), 2, 61);
        faults("(c4)".repeat(20) + "(f3)", 2, 81);
        faults("(gx) ".repeat(20) + "(ax)", 2, 101);
        faults("(gy) ".repeat(20) + "(my)", 2, 101);
        // Each kind has a room of its own, and none is filled by another.
        reads("(" + "g".repeat(150) + ",".repeat(30) + "zc1axay".repeat(20) + ")" + "a ".repeat(59), 150);
        reads("(" + "gx".repeat(20) + "gy".repeat(20) + "g".repeat(150) + ")", 150);
        // A height behind 150 NOTES may still be a FLAT, a NATURAL, a CLEF.
        reads("(" + "g".repeat(150) + "gxgyc1f4)", 150);
        // What is no thing of the kind takes none of its room.
        reads("a".repeat(700) + " ".repeat(700), 0);
        reads("(" + "/ \n".repeat(400) + ")", 0);
    }

    private static void limitsOfEachReading() {
        Check.promise(4, "too many of a text, not of all that an object has read");
        String full = "(" + "g".repeat(150) + ",".repeat(30) + "zc1axay".repeat(20) + ")" + "a ".repeat(59);
        Chant x = new Chant();
        for (int i = 0; i < 6; i++) {
            Check.reads(x, full, 150);
        }
        Chant y = new Chant();
        for (int i = 0; i < 4; i++) {
            Check.faults(y, "(" + "g".repeat(151) + ")", 2, 151);
            Check.faults(y, "(" + "zc1axay".repeat(20) + "z)", 2, 141);
        }
        Check.reads(y, "(" + "g".repeat(150) + "zc1axay".repeat(20) + ")", 150);
    }

    private static void firstFault() {
        Check.promise(4, "FAULTS, the first one, at its place");
        faults("(g..n)", 3, 3);
        faults("(ng..)", 1, 1);
        faults("(" + "g".repeat(151) + "..)", 2, 151);
        faults("(" + "g".repeat(150) + "..)", 3, 152);
        faults("(" + "z".repeat(21) + "n)", 2, 21);
        faults("(" + "z".repeat(20) + "nz)", 1, 21);
        faults("a ".repeat(61) + ")", 2, 120);
        faults("a ".repeat(60) + ")a", 1, 120);
        faults("a ".repeat(60) + "(", 2, 120);
        faults("(" + "c4".repeat(20) + "c5)", 1, 42);
        faults("(" + "c4".repeat(20) + "c45)", 2, 41);
        // A 151st c is a NOTE, and stands before the digit that can not stand behind it.
        faults("(" + "g".repeat(150) + "c5)", 2, 151);
        faults("(" + "g".repeat(150) + "c", 2, 151);
        faults("(" + "g".repeat(150), 1, 151);
    }

    private static void howManyNotes() {
        Check.promise(4, "is the text: how many NOTES");
        reads("", 0);
        reads("a(gxgyc4,z)", 0);
        reads("(g)", 1);
        reads("(" + "g".repeat(150) + ")", 150);
        Chant x = Check.of("(gg)");
        Check.due("read() of an empty tape", x.read(), 0);
        Check.due("NOTES of the text then", x.count(1), 0);
        Check.due("SYLLABLES of the text then", x.count(0), 0);
    }

    private static void tapeIsEmptyThen() {
        Check.promise(4, "The tape, which is empty then");
        for (String text : new String[] {"", "a(g)", ")", "(g..)", "(" + "z".repeat(21) + ")", "a".repeat(1500)}) {
            Chant x = new Chant();
            Check.read(x, text);
            Check.due("count(7) behind \"" + text + "\"", x.count(7), 0);
            Check.due("end(1) behind \"" + text + "\"", x.end(1), Check.OUTSIDE);
            Check.due("a feed() behind \"" + text + "\"", x.feed(0, 0, 0, 0, 0), 20);
        }
    }

    private static void textIsNothingThen() {
        Check.promise(4, "-10 less the FAULT (the text is nothing then)");
        String nothing = Check.state(new Chant());
        String[] faulty = {"a(c3g,z)b)", "a(c3g,zn", "(g,z..)", "(gg..)", "(" + "z".repeat(21) + ")"};
        int[] answers = {-11, -11, -11, -13, -12};
        for (int i = 0; i < faulty.length; i++) {
            Chant x = Check.of("Ky'(fgx g.)e(c3h,z) a");
            Check.due("read() of \"" + faulty[i] + "\"", Check.read(x, faulty[i]), answers[i]);
            String place = "place " + x.place();
            Check.due("the state then", Check.state(x), nothing.replace("place -100", place));
            Check.due("write()", x.write(), 0);
            // The next text begins anew: c 4, no FLAT, WORD 0, GROUP 0.
            Check.due("read()", Check.read(x, "(jg)"), 2);
            Check.due("the first NOTE", Check.row(8, what -> x.note(0, what)), "9 0 0 0 0 0 0 2");
            Check.due("the second NOTE", Check.row(8, what -> x.note(1, what)), "6 0 0 0 0 -3 -5 2");
            Check.due("its SYLLABLE", Check.row(6, what -> x.syllable(0, what)), "0 0 0 1 2 0");
        }
    }

    private static void nothingStandsBeforeAText() {
        Check.promise(4, "the text is nothing then: where a faulty text broke off, the next one does not go on");
        for (String broken : new String[] {"(g", "(g.", "(gx", "(c", "(:", "(g/", "(g)a)", "a)", "a(", "(g..", "(" + "g".repeat(151)}) {
            String[] texts = {"(.)", "(x)", "(4)", ".", "g.)", "a)"};
            int[] places = {1, 1, 1, 0, 1, 1};
            for (int i = 0; i < texts.length; i++) {
                Chant x = new Chant();
                Check.due("read() of \"" + broken + "\"", Math.max(Check.read(x, broken), -10), -10);
                Check.faults(x, texts[i], 1, places[i]);
            }
            Chant y = new Chant();
            Check.read(y, broken);
            Check.reads(y, "(:g)", 1);
            Check.due("its BAR", y.bar(0, 0), 3);
            Check.due("its NOTE", Check.row(8, what -> y.note(0, what)), "6 0 0 0 0 -3 -5 2");
            Check.read(y, broken);
            Check.reads(y, "gx", 0);
            Check.due("its SYLLABLE", Check.row(6, what -> y.syllable(0, what)), "0 2 0 0 0 -100");
        }
    }
}
