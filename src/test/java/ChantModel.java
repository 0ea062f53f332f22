/** The whole face a second time, plainly: texts by TextModel, psalms by PsalmModelTest's fitting. */
final class ChantModel {
    private final StringBuilder tape = new StringBuilder();
    private final StringBuilder[] verse = {new StringBuilder(), new StringBuilder()};
    private TextModel text = new TextModel("");
    private String written = "";
    private int tone = 1;

    int feed(int... numbers) {
        if (tape.length() > 1480) {
            return Check.ROOM;
        }
        for (int number : numbers) {
            for (byte b : new byte[] {(byte) (number >> 24), (byte) (number >> 16), (byte) (number >> 8), (byte) number}) {
                tape.append((char) Byte.toUnsignedInt(b));
            }
        }
        return tape.length();
    }

    int end(int n) {
        if (n < 0 || n > tape.length()) {
            return Check.OUTSIDE;
        }
        tape.setLength(n);
        return n;
    }

    int read() {
        text = new TextModel(tape.toString());
        tape.setLength(0);
        return text.fault > 0 ? -10 - text.fault : text.notes.size();
    }

    int place() {
        return text.place;
    }

    int ask(java.util.List<int[]> things, int columns, int i, int what) {
        if (i < 0 || i >= things.size()) {
            return Check.UNKNOWN;
        }
        return what < 0 || what >= columns ? Check.OUTSIDE : things.get(i)[what];
    }

    int syllable(int i, int what) {
        return ask(text.syllables, 6, i, what);
    }

    int note(int i, int what) {
        return ask(text.notes, 8, i, what);
    }

    int neume(int i, int what) {
        return ask(text.neumes, 4, i, what);
    }

    int bar(int i, int what) {
        return ask(text.bars, 2, i, what);
    }

    int guide(int i) {
        return i < 0 || i >= text.ends.size() ? Check.UNKNOWN : text.guide(i);
    }

    int mode(int what) {
        if (what < 0 || what > 4) {
            return Check.OUTSIDE;
        }
        return text.notes.isEmpty() ? Check.STATE : text.mode()[what];
    }

    int tone(int t) {
        if (t < 1 || t > 8) {
            return Check.OUTSIDE;
        }
        int before = tone;
        tone = t;
        return before;
    }

    int point(int half, boolean accent) {
        if (half != 0 && half != 1) {
            return Check.OUTSIDE;
        }
        if (verse[half].length() == 40) {
            return Check.ROOM;
        }
        return verse[half].append(accent ? '\'' : '-').length();
    }

    int fresh() {
        int had = verse[0].length() + verse[1].length();
        verse[0].setLength(0);
        verse[1].setLength(0);
        return had;
    }

    private String[] fitted(int half) {
        return PsalmModelTest.fit(tone, half, verse[half].toString()).split(" = ", -1);
    }

    private String[] steps(int half) {
        String steps = fitted(half)[1];
        return steps.isEmpty() ? new String[0] : steps.split(" ");
    }

    int half(int half, int what) {
        if (half < 0 || half > 1 || what < 0 || what > 3) {
            return Check.OUTSIDE;
        }
        return what == 0 ? steps(half).length : Integer.parseInt(fitted(half)[0].split(" ")[what - 1]);
    }

    int sung(int half, int k, int what) {
        if (half < 0 || half > 1 || what < 0 || what > 1) {
            return Check.OUTSIDE;
        }
        String[] steps = steps(half);
        return k < 0 || k >= steps.length ? Check.NONE : Integer.parseInt(steps[k].split(":")[what]);
    }

    int write() {
        written = text.written.toString();
        return written.length();
    }

    int at(int i) {
        return i < 0 || i >= written.length() ? Check.NONE : written.charAt(i);
    }

    int count(int what) {
        switch (what) {
            case 0:
                return text.syllables.size();
            case 1:
                return text.notes.size();
            case 2:
                return text.groups;
            case 3:
                return text.neumes.size();
            case 4:
                return text.bars.size();
            case 5:
                return text.ends.size();
            case 6:
                return text.words;
            case 7:
                return tape.length();
            case 8:
                return (int) text.syllables.stream().filter(s -> s[4] == 0).count();
            default:
                return Check.OUTSIDE;
        }
    }
}
