import java.util.List;
import java.util.Random;

/** Promises 4 to 11, 17 and 19 on many texts, against a second reading of each. */
public final class TextModelTest {
    private static final String[] LOOSE = {"(", "(", ")", ")", " ", "\n", "a", "b", "c", "f", "g", "h", "i", "m", "n",
        "v", "w", "x", "y", "z", "A", "'", ".", "_", "~", ",", ";", ":", "/", "1", "4", "5", "0"};
    private static final String[] SIGNS = {"a", "c", "e", "f", "g", "h", "i", "j", "m", "f", "g", "h", "g.", "h_v",
        "iw", "hv", "f~", "g~w", "/", " ", "\n", ",", ";", ":", ":", "::", "z", "c4", "c3", "f3", "f1", "c1", "ix", "iy",
        "gx", "hx", "hy"};
    private static final String[] LETTERS = {"", "", "a", "Ky'", "ri", "lei'son", "Z"};
    private static final String[] GAPS = {"", "", " ", "\n", "  ", " \n "};

    public static void main(String[] args) {
        Random random = new Random(7);
        for (int i = 0; i < 3000; i++) {
            compare(draw(random, LOOSE, 1 + random.nextInt(25)));
        }
        for (int i = 0; i < 3000; i++) {
            compare(chant(random, 1 + random.nextInt(8), 8));
        }
        for (int i = 0; i < 2000; i++) {
            compare(spoiled(random, chant(random, 1 + random.nextInt(8), 8)));
        }
        for (int i = 0; i < 600; i++) {
            String text = chant(random, 40 + random.nextInt(30), random.nextInt(9));
            compare(text.substring(0, Math.min(1500, text.length())));
        }
        Check.finish();
    }

    private static String draw(Random random, String[] from, int n) {
        StringBuilder out = new StringBuilder();
        for (int i = 0; i < n; i++) {
            out.append(from[random.nextInt(from.length)]);
        }
        return out.toString();
    }

    static String chant(Random random, int syllables, int signs) {
        StringBuilder out = new StringBuilder();
        for (int i = 0; i < syllables; i++) {
            out.append(draw(random, LETTERS, 1)).append('(').append(draw(random, SIGNS, random.nextInt(signs + 1)))
                    .append(')').append(draw(random, GAPS, 1));
        }
        return out.toString();
    }

    static String spoiled(Random random, String text) {
        int p = random.nextInt(text.length() + 1);
        int behind = Math.min(text.length(), p + random.nextInt(2));
        return text.substring(0, p) + draw(random, LOOSE, random.nextInt(2)) + text.substring(behind);
    }

    private static Chant chant;
    private static String text;

    /** The object that has read the text; another one that has, when its calls go towards their end. */
    private static Chant reader() {
        if (chant.calls() > Chant.CALLS - 20) {
            chant = new Chant();
            Check.read(chant, text);
        }
        return chant;
    }

    private static void compare(String ofText) {
        text = ofText;
        TextModel model = new TextModel(text);
        chant = new Chant();
        String name = " of \"" + text + "\"";
        int answer = model.fault == 0 ? model.notes.size() : -10 - model.fault;
        Check.due("read()" + name, Check.read(chant, text), answer);
        Check.due("place()" + name, chant.place(), model.place);
        rows("syllable" + name, model.syllables, 6, (i, what) -> reader().syllable(i, what));
        rows("note" + name, model.notes, 8, (i, what) -> reader().note(i, what));
        rows("neume" + name, model.neumes, 4, (i, what) -> reader().neume(i, what));
        rows("bar" + name, model.bars, 2, (i, what) -> reader().bar(i, what));
        for (int i = 0; i < model.ends.size(); i++) {
            Check.due("guide(" + i + ")" + name, reader().guide(i), model.guide(i));
        }
        Check.due("guide() behind the last" + name, reader().guide(model.ends.size()), -101);
        for (int what = 0; what < 5; what++) {
            Check.due("mode" + name, reader().mode(what), model.notes.isEmpty() ? -103 : model.mode()[what]);
        }
        long without = model.syllables.stream().filter(s -> s[4] == 0).count();
        Check.due("counts" + name, Check.row(9, what -> reader().count(what)), model.syllables.size() + " "
                + model.notes.size() + " " + model.groups + " " + model.neumes.size() + " " + model.bars.size() + " "
                + model.ends.size() + " " + model.words + " 0 " + without);
        if (model.fault == 0) {
            Check.due("written" + name, Check.writtenOf(text), model.written.toString());
        }
        Check.due("write()" + name, reader().write(), model.written.length());
    }

    private static void rows(String name, List<int[]> want, int columns, Check.AskTwo ask) {
        for (int i = 0; i < want.size(); i++) {
            for (int what = 0; what < columns; what++) {
                Check.due(name + " " + i + " " + what, ask.of(i, what), want.get(i)[what]);
            }
        }
        Check.due(name + " behind the last", ask.of(want.size(), 0), -101);
    }
}
