/** Promise 17, write: nothing, the fullest texts, and each place where a / or a blank is or is not written. */
public final class Edge17WriteTest {
    public static void main(String[] args) {
        nothing();
        fullest();
        words();
        brackets();
        signs();
        marks();
        groups();
        noGroupBehind();
        colons();
        shorter();
        fullBehindFull();
        afterFaults();
        leavesTheRest();
        Check.finish();
    }

    private static void written(String text, String want) {
        Check.due("written of \"" + text + "\"", Check.writtenOf(text), want);
        Check.due("write() of \"" + text + "\"", Check.of(text).write(), want.length());
        Check.due("what was written, written again", Check.writtenOf(want), want);
    }

    private static void nothing() {
        Check.promise(17, "how many bytes: of a text of nothing 0");
        Check.due("write() of a new object", new Chant().write(), 0);
        written("", "");
        written(" ", "");
        written("\n".repeat(1500), "");
    }

    private static void fullest() {
        Check.promise(17, "how many bytes: 1,500 at most");
        String letters = "a".repeat(1499) + "Z";
        written(letters, letters);
        String words = "a ".repeat(59) + "b".repeat(1382);
        written(words, words);
        String signs = "(" + "f._vw~/".repeat(149) + "f._vw~)";
        String marked = signs + "y".repeat(1500 - signs.length());
        written(marked, marked);
        String allKinds = "(" + "g".repeat(150) + "::".repeat(30) + "zc1axay".repeat(20) + ")";
        String all = allKinds + "'".repeat(1500 - allKinds.length());
        written(all, all);
        String syllables = "a()".repeat(60);
        written(syllables, syllables);
    }

    private static void words() {
        Check.promise(17, "WORDS with one blank between");
        written("a b", "a b");
        written("a\nb", "a b");
        written("a \n  b", "a b");
        written("a" + " ".repeat(1498) + "b", "a b");
        written(" a ", "a");
        written("\n\na\n\n", "a");
        written("(g)(g) (g)\n()", "(g)(g) (g) ()");
        written("(g)a", "(g)a");
        written("(g) a", "(g) a");
        // WORDS of one SYLLABLE and of more, one behind the other.
        written("a b()c", "a b()c");
        written("a()b c", "a()b c");
        written("a b()c d()()e f  g()h", "a b()c d()()e f g()h");
    }

    private static void brackets() {
        Check.promise(17, "each with its LETTERS, and, if it had ( ), in these: its SIGNS");
        written("a", "a");
        written("a()", "a()");
        written("()", "()");
        written("a( \n/)", "a()");
        written("a()()", "a()()");
        written("'a'b''(g)", "'a'b''(g)");
        written("azAZ'", "azAZ'");
    }

    private static void signs() {
        Check.promise(17, "its SIGNS in order");
        written("(abcdefghijklm)", "(abcdefghijklm)");
        written("(c1c2c3c4f1f2f3f4)", "(c1c2c3c4f1f2f3f4)");
        written("(axbxcxdxexfxgxhxixjxkxlxmx)", "(axbxcxdxexfxgxhxixjxkxlxmx)");
        written("(aybycydyeyfygyhyiyjykylymy)", "(aybycydyeyfygyhyiyjykylymy)");
        written("(,;:,::)", "(,;:,::)");
        written("(zz)", "(zz)");
        written("(c4gxgygz,h)", "(c4gxgygz,h)");
        written("(h,zggygxc4)", "(h,zggygxc4)");
    }

    private static void marks() {
        Check.promise(17, "NOTES with their MARKS in the order . _ v w ~");
        String order = "._vw~";
        for (int marks = 0; marks < 32; marks++) {
            StringBuilder up = new StringBuilder();
            for (int i = 0; i < 5; i++) {
                up.append((marks >> i & 1) == 1 ? order.substring(i, i + 1) : "");
            }
            String down = new StringBuilder(up).reverse().toString();
            written("(g" + down + "h)", "(g" + up + "h)");
        }
    }

    private static void groups() {
        Check.promise(17, "right behind the last NOTE of a GROUP a /, if another one is behind it in these ( )");
        written("(g/h)", "(g/h)");
        written("(g h)", "(g/h)");
        written("(g\nh)", "(g/h)");
        written("(g / / h)", "(g/h)");
        written("(gh i/jk)", "(gh/i/jk)");
        written("(g. h)", "(g./h)");
        // Right behind the NOTE: before the FLATS and NATURALS that stand between.
        written("(g ix h)", "(g/ixh)");
        written("(gix h)", "(g/ixh)");
        written("(gix/iy h)", "(g/ixiyh)");
        written("(g/c h)", "(g/c/h)");
        // Within a GROUP there is none.
        written("(gh)", "(gh)");
        written("(gixh)", "(gixh)");
        written("(giyh)", "(giyh)");
    }

    private static void noGroupBehind() {
        Check.promise(17, "and no BAR, CLEF, END between; nothing else");
        for (String between : new String[] {",", ";", ":", "::", "c1", "f4", "z", "ix,", ",ix", "zc4", "ixziy"}) {
            written("(g" + between + "h)", "(g" + between + "h)");
            written("(g /" + between + "/ h)", "(g" + between + "h)");
        }
        written("(g/)", "(g)");
        written("(/g)", "(g)");
        written("(g )(h)", "(g)(h)");
        written("(g/ix)", "(gix)");
        written("(g/ix)(h)", "(gix)(h)");
        written("(ix/g)", "(ixg)");
        written("(,/;)", "(,;)");
        written("(ix/iy z/c4)", "(ixiyzc4)");
        written("(g,/h i)", "(g,h/i)");
        written("(g h,i j)", "(g/h,i/j)");
    }

    private static void colons() {
        Check.promise(17, "a / between a BAR : and one with : right behind it");
        written("(:/:)", "(:/:)");
        written("(: :)", "(:/:)");
        written("(:/::)", "(:/::)");
        written("(: : :)", "(:/:/:)");
        written("(: : ::)", "(:/:/::)");
        // Not behind a ::, and not when something stands between.
        written("(:::)", "(:::)");
        written("(::/:)", "(:::)");
        written("(::/::)", "(::::)");
        written("(::/:/:)", "(:::/:)");
        written("(:/,)", "(:,)");
        written("(,/:)", "(,:)");
        written("(;/::)", "(;::)");
        written("(:/;/:)", "(:;:)");
        written("(:/g/:)", "(:g:)");
        written("(:/ix/:)", "(:ix:)");
        written("(:/iy/::)", "(:iy::)");
        written("(:/z/:)", "(:z:)");
        written("(:/c4/:)", "(:c4:)");
        written("(:)(:)", "(:)(:)");
        written("(:) (::)", "(:) (::)");
        written("(" + ":/".repeat(30) + ")", "(" + ":/".repeat(29) + ":)");
    }

    private static void shorter() {
        Check.promise(17, "The text is WRITTEN: the latest one, a shorter one behind a longer too");
        Chant x = Check.of("abc(g/h,z)de fg");
        Check.due("write()", x.write(), 15);
        Check.read(x, "a(g)");
        Check.due("write()", Check.written(x), "a(g)");
        Check.due("at() behind its end", x.at(4), Check.NONE);
        Check.due("write() again", Check.written(x), "a(g)");
        x.read();
        Check.due("write() of an empty tape's text", x.write(), 0);
    }

    private static void fullBehindFull() {
        Check.promise(17, "how many bytes: 1,500 at most, of a full text behind other full ones too");
        String signs = "(" + "g".repeat(150) + "::".repeat(30) + "zc1axay".repeat(20) + ")";
        String text = signs + "b".repeat(1500 - signs.length());
        String letters = "a".repeat(1499) + "'";
        for (int from = 0; from < 1500; from += 100) {
            Chant x = new Chant();
            Check.reads(x, letters, 0);
            Check.due("write()", x.write(), 1500);
            Check.reads(x, text, 150);
            Check.due("write()", x.write(), 1500);
            Check.reads(x, text, 150);
            Check.due("write() again", x.write(), 1500);
            Check.due("bytes from " + from, Check.bytes(x, from, from + 100), text.substring(from, from + 100));
            Check.reads(x, letters, 0);
            Check.due("write()", x.write(), 1500);
            Check.due("the last bytes", Check.bytes(x, 1490, 1500), letters.substring(1490));
        }
    }

    private static void afterFaults() {
        Check.promise(17, "The text, which is nothing behind a FAULT");
        for (String faulty : new String[] {"abc)", "(gh", "(g..)", "(" + "z".repeat(21) + ")", "a ".repeat(61)}) {
            Chant x = Check.of("abc(g/h)");
            Check.read(x, faulty);
            Check.due("write() behind \"" + faulty + "\"", x.write(), 0);
            Check.due("at(0)", x.at(0), Check.NONE);
            Check.read(x, "de(i)");
            Check.due("write() of the next text", Check.written(x), "de(i)");
        }
    }

    private static void leavesTheRest() {
        Check.promise(17, "write() changes nothing but what was WRITTEN");
        Chant x = Check.busy();
        String before = Check.state(x);
        Check.due("write() of the same text", x.write(), 21);
        Check.due("the state behind it", Check.state(x), before);
        Check.tapeIs(x, "AB");
    }
}
