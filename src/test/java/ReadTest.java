/** Promises 4 (read) and 5 (place): what can stand where, and the three faults. */
public final class ReadTest {
    public static void main(String[] args) {
        good();
        strange();
        tooMany();
        twice();
        firstFault();
        textOfNothing();
        Check.finish();
    }

    private static void reads(String text, int notes) {
        Check.reads(new Chant(), text, notes);
    }

    private static void faults(String text, int fault, int place) {
        Check.faults(new Chant(), text, fault, place);
    }

    private static void good() {
        reads("", 0);
        reads(" \n \n", 0);
        reads("\n a \n\n  b ", 0);
        reads("'", 0);
        reads("()", 0);
        reads("(/ /\n/)", 0);
        reads("zxyXZ(a)(m)n", 2);
        reads("a(abcdefghijklm)", 13);
        reads("(c1c2c3c4f1f2f3f4)", 0);
        reads("(cf c.f. cf1 fc4)", 6);
        reads("(cxfxcyfy axmyaymx)", 0);
        reads("(,;::::)", 0);
        reads("(zz,zf)", 1);
        reads("(a._vw~b~wv_.)", 2);
    }

    private static void strange() {
        faults(")", 1, 0);
        faults("a)", 1, 1);
        faults("a/", 1, 1);
        faults("a.", 1, 1);
        faults("a 1", 1, 2);
        faults("a\tb", 1, 1);
        faults("a\rb", 1, 1);
        faults("@", 1, 0);
        faults("[", 1, 0);
        faults("`", 1, 0);
        faults("{", 1, 0);
        faults("\0", 1, 0);
        faults("a(f))", 1, 4);
        faults("(()", 1, 1);
        faults("(n)", 1, 1);
        faults("(A)", 1, 1);
        faults("(')", 1, 1);
        faults("(`)", 1, 1);
        faults("(.)", 1, 1);
        faults("(v)", 1, 1);
        faults("(~)", 1, 1);
        faults("(f .)", 1, 3);
        faults("(f/v)", 1, 3);
        faults("(f,w)", 1, 3);
        faults("(z.)", 1, 2);
        faults("(c4.)", 1, 3);
        faults("(gx.)", 1, 3);
        faults("(gxx)", 1, 3);
        faults("(gyx)", 1, 3);
        faults("(g.x)", 1, 3);
        faults("(x)", 1, 1);
        faults("(y)", 1, 1);
        faults("(g x)", 1, 3);
        faults("(zx)", 1, 2);
        faults("(1)", 1, 1);
        faults("(g4)", 1, 2);
        faults("(c0)", 1, 2);
        faults("(c5)", 1, 2);
        faults("(f9)", 1, 2);
        faults("(c.4)", 1, 3);
        faults("(c44)", 1, 3);
        faults("(c 4)", 1, 3);
        faults("(cx4)", 1, 3);
        faults("(", 1, 1);
        faults("a(c", 1, 3);
        faults("a(c4", 1, 4);
        faults("a(:", 1, 3);
        faults("a(f. ", 1, 5);
        faults("a(fx", 1, 4);
    }

    private static void tooMany() {
        limit("a ", 60, 0);
        limit("(a)", 60, 60);
        limit("''()", 60, 0);
        limitInside("g", 150, 150);
        limitInside("c.", 150, 150);
        limitInside("f~/", 150, 150);
        limitInside(",", 30, 0);
        limitInside(":/", 30, 0);
        limitInside("::", 30, 0);
        limitInside("z", 20, 0);
        limitInside("c4", 20, 0);
        limitInside("f1 ", 20, 0);
        limitInside("ax", 20, 0);
        limitInside("my", 20, 0);
        // Each kind has a room of its own.
        reads("(" + "g".repeat(150) + ",".repeat(30) + "zc1axay".repeat(20) + ")", 150);
        // Clefs of both letters share theirs, as all bars do.
        faults("(" + "c4f4".repeat(10) + "f1)", 2, 41);
        faults("(" + ",:;".repeat(10) + "::)", 2, 31);
        // A height behind 150 notes may still be a flat or a clef.
        reads("(" + "g".repeat(150) + "gxc4f1cy)", 150);
    }

    private static void limit(String syllable, int most, int notes) {
        reads(syllable.repeat(most), notes);
        faults(syllable.repeat(most + 1), 2, syllable.length() * most);
    }

    private static void limitInside(String sign, int most, int notes) {
        reads("(" + sign.repeat(most) + ")", notes);
        faults("(" + sign.repeat(most + 1) + ")", 2, 1 + sign.length() * most);
    }

    private static void twice() {
        faults("(f..)", 3, 3);
        faults("(f.v.)", 3, 4);
        faults("(f~_~)", 3, 4);
        faults("(fww)", 3, 3);
        faults("(fg__", 3, 4);
        faults("(f.g.v_v)", 3, 7);
        reads("(f.f.)", 2);
    }

    private static void firstFault() {
        faults("(f..x", 3, 3);
        faults("(fx.f..)", 1, 3);
        // c and f without a line are notes, so the 151st comes before the digit behind it.
        faults("(" + "g".repeat(150) + "c5)", 2, 151);
        faults("(" + "g".repeat(150) + "c", 2, 151);
        faults("(" + "g".repeat(150) + "5)", 1, 151);
        faults("a ".repeat(60) + "(5)", 2, 120);
        faults("a ".repeat(60) + "5", 1, 120);
        faults("(" + "ax".repeat(20) + "axx)", 2, 41);
    }

    private static void textOfNothing() {
        Chant x = new Chant();
        Check.reads(x, "a(c3f,z)", 1);
        Check.faults(x, "a(", 1, 2);
        Check.due("note(0, 0)", x.note(0, 0), -101);
        Check.due("guide(0)", x.guide(0), -101);
        Check.due("mode(0)", x.mode(0), -103);
        Check.due("write()", x.write(), 0);
        // The clef is c 4 again.
        Check.reads(x, "(j)", 1);
        Check.due("note(0, 5)", x.note(0, 5), 0);
    }
}
