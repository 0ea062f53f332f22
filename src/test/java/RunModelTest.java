import java.util.Random;

/** All promises in long mixed runs of calls on one object, against a second object of plain means. */
public final class RunModelTest {
    private final Random random;
    private final Chant x = new Chant();
    private final ChantModel model = new ChantModel();
    private final String run;

    private RunModelTest(int seed) {
        random = new Random(seed);
        run = "run " + seed + ", call ";
    }

    public static void main(String[] args) {
        for (int seed = 0; seed < 3000; seed++) {
            new RunModelTest(seed).go();
        }
        Check.finish();
    }

    private void go() {
        while (left(1)) {
            int kind = random.nextInt(100);
            if (kind < 4) {
                readText();
            } else if (kind < 6) {
                int n = near(model.count(7));
                same("end", x.end(n), model.end(n));
            } else if (kind < 8) {
                feed("a ".repeat(10), 0);
            } else if (kind < 9) {
                same("read", x.read(), model.read());
            } else if (kind < 30) {
                change();
            } else {
                ask();
            }
        }
    }

    private boolean left(int calls) {
        return x.calls() + calls <= Chant.CALLS;
    }

    /** A text that is often whole, and sometimes spoiled, with other calls while it is fed. */
    private void readText() {
        String text = TextModelTest.chant(random, 1 + random.nextInt(random.nextInt(20) == 0 ? 50 : 8), 8);
        if (random.nextInt(5) == 0) {
            text = TextModelTest.spoiled(random, text);
        }
        text = text.substring(0, Math.min(text.length(), 1500));
        if (!left(text.length() / 10 + 5)) {
            return;
        }
        same("end", x.end(0), model.end(0));
        for (int p = 0; p < text.length(); p += 20) {
            feed(text, p);
            if (random.nextInt(4) == 0) {
                ask();
            }
        }
        same("end", x.end(text.length()), model.end(text.length()));
        same("read", x.read(), model.read());
    }

    private void same(String name, int got, int want) {
        Check.due(run + x.calls() + ", " + name, got, want);
    }

    private void feed(String text, int p) {
        int[] n = new int[5];
        for (int i = 0; i < 20; i++) {
            n[i / 4] = n[i / 4] << 8 | (p + i < text.length() ? text.charAt(p + i) : '?');
        }
        same("feed", x.feed(n[0], n[1], n[2], n[3], n[4]), model.feed(n));
    }

    private void change() {
        int half = random.nextInt(12) == 0 ? random.nextInt(5) - 2 : random.nextInt(2);
        boolean accent = random.nextInt(4) == 0;
        int kind = random.nextInt(20);
        if (kind < 12) {
            same("point", x.point(half, accent), model.point(half, accent));
        } else if (kind < 16) {
            int t = random.nextInt(11) - 1;
            same("tone", x.tone(t), model.tone(t));
        } else if (kind < 17) {
            same("fresh", x.fresh(), model.fresh());
        } else {
            same("write", x.write(), model.write());
        }
    }

    /** A number from below 0 to beyond count, the edges oftener than others. */
    private int near(int count) {
        int[] edges = {-1, 0, count - 1, count, count + 1};
        return random.nextInt(3) == 0 ? edges[random.nextInt(5)] : random.nextInt(count + 1);
    }

    private void ask() {
        int what = random.nextInt(10) - 1;
        switch (random.nextInt(11)) {
            case 0:
                same("place", x.place(), model.place());
                break;
            case 1:
                int s = near(model.count(0));
                same("syllable", x.syllable(s, what), model.syllable(s, what));
                break;
            case 2:
                int n = near(model.count(1));
                same("note", x.note(n, what), model.note(n, what));
                break;
            case 3:
                int neume = near(model.count(3));
                same("neume", x.neume(neume, what / 2), model.neume(neume, what / 2));
                break;
            case 4:
                int b = near(model.count(4));
                same("bar", x.bar(b, what / 3), model.bar(b, what / 3));
                break;
            case 5:
                int e = near(model.count(5));
                same("guide", x.guide(e), model.guide(e));
                break;
            case 6:
                same("mode", x.mode(what), model.mode(what));
                break;
            case 7:
                int h = random.nextInt(3);
                same("half", x.half(h, what), model.half(h, what));
                break;
            case 8:
                int of = random.nextInt(2);
                int k = near(model.half(of, 0));
                same("sung", x.sung(of, k, what / 4), model.sung(of, k, what / 4));
                break;
            case 9:
                int i = near(60);
                same("at", x.at(i), model.at(i));
                break;
            default:
                same("count", x.count(what), model.count(what));
        }
    }
}
