/** Promises 17 (write) and 18 (at). */
public final class WriteTest {
    public static void main(String[] args) {
        texts();
        longest();
        fullTwice();
        keptWriting();
        Check.finish();
    }

    private static void written(String text, String want) {
        Check.due("written of \"" + text + "\"", Check.writtenOf(text), want);
        Check.due("write()", Check.of(text).write(), want.length());
        Check.due("written anew", Check.writtenOf(want), want);
    }

    private static void texts() {
        written("", "");
        written("  \n ", "");
        written(" a \n b\n", "a b");
        written("Ky'(f)ri(g)e  e(h)", "Ky'(f)ri(g)e e(h)");
        written("()(  ) ( / )a()", "()() ()a()");
        written("(f~wv_. g_. hvw)", "(f._vw~/g._/hvw)");
        written("( f  /g\n/ )", "(f/g)");
        written("(f/,/g ; h / z / i c4 j)", "(f,g;hzic4j)");
        written("(fgxh)", "(fgxh)");
        written("(f gx h)", "(f/gxh)");
        written("(fgx h)", "(f/gxh)");
        written("(f/gx/gy h)", "(f/gxgyh)");
        written("(f/gx)(h)", "(fgx)(h)");
        written("(f gx , h)", "(fgx,h)");
        written("(f gx z h)", "(fgxzh)");
        written("(f gy c3 h)", "(fgyc3h)");
        written("(fgx/ h i)", "(f/gxh/i)");
        written("(/fx / gy/c1/f4/z/,/;/:)", "(fxgyc1f4z,;:)");
        written("(:/:)", "(:/:)");
        written("(: ::)", "(:/::)");
        written("(:::)", "(:::)");
        written("(::/:)", "(:::)");
        written("(:: ::)", "(::::)");
        written("(: : : ::)", "(:/:/:/::)");
        written("(:/,/:/;)", "(:,:;)");
        written("(: f :)", "(:f:)");
        written("(: z :)", "(:z:)");
        written("(: gx :)", "(:gx:)");
        written("(: gx f g :)", "(:gxf/g:)");
        written("(:)(:)", "(:)(:)");
        written("(c4 c f f3 c)", "(c4c/ff3c)");
    }

    private static void longest() {
        String text = "a".repeat(1500);
        written(text, text);
        String signs = "(" + "f._vw~/".repeat(149) + "f._vw~)";
        written(signs + "b".repeat(1500 - signs.length()), signs + "b".repeat(1500 - signs.length()));
    }

    /** All rooms full, twice on one object: nothing of the first text takes room from the second. */
    private static void fullTwice() {
        String signs = "(" + "g".repeat(150) + ",".repeat(30) + "zc1axay".repeat(20) + ")";
        String text = signs + "b".repeat(1500 - signs.length());
        String letters = "a".repeat(1499) + "'";
        for (int from = 0; from < 1500; from += 150) {
            Chant x = new Chant();
            Check.due("read()", Check.read(x, text), 150);
            Check.due("read()", Check.read(x, letters), 0);
            Check.due("write() of all letters", x.write(), 1500);
            Check.due("letters behind signs", Check.bytes(x, from, from + 100), letters.substring(from, from + 100));
            Check.due("read()", Check.read(x, text), 150);
            Check.due("write() of all signs", x.write(), 1500);
            Check.due("signs behind letters", Check.bytes(x, from, from + 150), text.substring(from, from + 150));
        }
    }

    private static void keptWriting() {
        Chant x = Check.of("ab (f)");
        Check.due("at(0) before write()", x.at(0), -100);
        Check.due("write()", x.write(), 6);
        Check.due("at(0)", x.at(0), 'a');
        Check.due("at(5)", x.at(5), ')');
        Check.due("at(6)", x.at(6), -100);
        Check.due("at(-1)", x.at(-1), -100);
        Check.due("at(MAX)", x.at(Integer.MAX_VALUE), -100);
        Check.due("at(MIN)", x.at(Integer.MIN_VALUE), -100);
        Check.read(x, "x");
        Check.due("at(0) behind a read()", x.at(0), 'a');
        Check.read(x, ")");
        Check.due("at(5) behind a fault", x.at(5), ')');
        Check.due("write() of nothing", x.write(), 0);
        Check.due("at(0)", x.at(0), -100);
    }
}
