import java.util.ArrayList;
import java.util.Arrays;
import java.util.List;
import java.util.regex.Matcher;
import java.util.regex.Pattern;

/** A second reading of texts, by patterns and whole lists, to hold the program against. */
final class TextModel {
    private static final Pattern SIGN = Pattern.compile(
            "(?<sep>[/ \n])|(?<clef>[cf][1-4])|(?<flat>[a-m]x)|(?<natural>[a-m]y)"
            + "|(?<note>[a-m])[._vw~]*|(?<bar>::|[,;:])|(?<end>z)|(?<close>\\))");
    private static final Pattern OUTSIDE = Pattern.compile("(?<blank>[ \n]+)|(?<syllable>[a-zA-Z']+\\(?|\\()");
    private static final List<String> NEUMES = List.of("", "", "u", "d", "s", "uu", "dd", "ud", "du", "ss",
            "udu", "dud", "uud", "ddu", "udd", "uudd", "dduu");
    private static final String MARKS = "._vw~";

    int fault = 0;
    int place = -100;
    int words = 0;
    int groups = 0;
    final List<int[]> syllables = new ArrayList<>();
    final List<int[]> notes = new ArrayList<>();
    final List<int[]> neumes = new ArrayList<>();
    final List<int[]> bars = new ArrayList<>();
    final List<int[]> ends = new ArrayList<>();
    final StringBuilder written = new StringBuilder();

    private final int[] flats = new int[13];
    private int clefs = 0;
    private int flatSigns = 0;
    private int naturals = 0;
    private int zero = 9;

    TextModel(String text) {
        boolean apart = true;
        int p = 0;
        Matcher m = OUTSIDE.matcher(text);
        while (p < text.length() && fault == 0) {
            m.region(p, text.length());
            if (!m.lookingAt()) {
                stop(1, p);
            } else if (m.group("blank") != null) {
                apart = true;
                Arrays.fill(flats, 0);
                p = m.end();
            } else if (syllables.size() == 60) {
                stop(2, p);
            } else {
                String found = m.group();
                String letters = found.replace("(", "");
                written.append(apart && words > 0 ? " " : "").append(letters);
                words += apart ? 1 : 0;
                apart = false;
                boolean open = found.endsWith("(");
                syllables.add(new int[] {words - 1, letters.length(), letters.contains("'") ? 1 : 0, open ? 1 : 0, 0, -100});
                p = open ? signs(text, m.end()) : m.end();
            }
        }
        finish();
    }

    private void stop(int why, int where) {
        fault = why;
        place = where;
    }

    /** Where the text goes on behind the brackets. */
    private int signs(String text, int start) {
        Matcher m = SIGN.matcher(text);
        List<String> parts = new ArrayList<>();
        int p = start;
        boolean closed = false;
        boolean joined = false;
        while (!closed && fault == 0) {
            m.region(p, text.length());
            if (!m.lookingAt()) {
                stop(1, p);
                return p;
            }
            String sign = m.group();
            if (m.group("note") != null) {
                takeNote(sign, p, joined, parts);
                joined = true;
            } else if (m.group("flat") != null || m.group("natural") != null) {
                takeAccidental(sign, p);
                parts.add(sign);
            } else {
                joined = false;
                closed = m.group("close") != null;
                takeParting(m, sign, p, parts);
            }
            p = m.end();
        }
        written.append("(").append(joinParts(parts)).append(")");
        return p;
    }

    private void takeNote(String sign, int p, boolean joined, List<String> parts) {
        if (notes.size() == 150) {
            stop(2, p);
            return;
        }
        int marks = 0;
        for (int i = 1; i < sign.length() && fault == 0; i++) {
            int mark = 1 << MARKS.indexOf(sign.charAt(i));
            if ((marks & mark) != 0) {
                stop(3, p + i);
            }
            marks |= mark;
        }
        groups += joined ? 0 : 1;
        int height = sign.charAt(0) - 'a';
        int step = height - zero;
        int semitones = flats[height];
        // Counted up or down the scale from C, a step at a time.
        for (int s = 0; s < step; s++) {
            semitones += List.of(2, 2, 1, 2, 2, 2, 1).get(s % 7);
        }
        for (int s = 0; s > step; s--) {
            semitones -= List.of(1, 2, 2, 2, 1, 2, 2).get(-s % 7);
        }
        int[] syllable = syllables.get(syllables.size() - 1);
        syllable[5] = syllable[4] == 0 ? notes.size() : syllable[5];
        syllable[4]++;
        notes.add(new int[] {height, marks, syllables.size() - 1, groups - 1, 0, step, semitones, 0});
        StringBuilder ordered = new StringBuilder(sign.substring(0, 1));
        for (int i = 0; i < 5; i++) {
            ordered.append((marks >> i & 1) == 1 ? MARKS.substring(i, i + 1) : "");
        }
        parts.add((joined ? "J" : "N") + ordered);
    }

    private void takeAccidental(String sign, int p) {
        boolean flat = sign.endsWith("x");
        if (flat ? ++flatSigns > 20 : ++naturals > 20) {
            stop(2, p);
        }
        flats[sign.charAt(0) - 'a'] = flat ? -1 : 0;
    }

    private void takeParting(Matcher m, String sign, int p, List<String> parts) {
        if (m.group("bar") != null) {
            if (bars.size() == 30) {
                stop(2, p);
            }
            bars.add(new int[] {List.of(",", ";", ":", "::").indexOf(sign) + 1, notes.size()});
            Arrays.fill(flats, 0);
        } else if (m.group("clef") != null) {
            if (++clefs > 20) {
                stop(2, p);
            }
            zero = 1 + 2 * (sign.charAt(1) - '0') + (sign.charAt(0) == 'f' ? 4 : 0);
            Arrays.fill(flats, 0);
        } else if (m.group("end") != null) {
            if (ends.size() == 20) {
                stop(2, p);
            }
            ends.add(new int[] {notes.size(), zero});
        } else {
            return;
        }
        parts.add(sign);
    }

    /** Notes bear a J, if they join the group before them, or an N. */
    private static String joinParts(List<String> parts) {
        StringBuilder out = new StringBuilder();
        int slashPlace = -1;
        String before = "";
        for (String part : parts) {
            if (part.startsWith("J") || part.startsWith("N")) {
                if (part.startsWith("N") && slashPlace >= 0) {
                    out.insert(slashPlace, "/");
                }
                out.append(part.substring(1));
                slashPlace = out.length();
            } else {
                out.append(before.equals(":") && part.startsWith(":") ? "/" : "").append(part);
                slashPlace = part.endsWith("x") || part.endsWith("y") ? slashPlace : -1;
            }
            before = part;
        }
        return out.toString();
    }

    private void finish() {
        if (fault != 0) {
            syllables.clear();
            notes.clear();
            bars.clear();
            ends.clear();
            words = 0;
            groups = 0;
            written.setLength(0);
            return;
        }
        for (int first = 0; first < notes.size();) {
            int behind = first;
            StringBuilder ways = new StringBuilder();
            while (behind < notes.size() && notes.get(behind)[3] == notes.get(first)[3]) {
                int change = behind == first ? 0 : notes.get(behind)[0] - notes.get(behind - 1)[0];
                ways.append(behind == first ? "" : change > 0 ? "u" : change < 0 ? "d" : "s");
                behind++;
            }
            first = takeNeumes(first, ways.toString());
        }
        for (int i = 0; i < notes.size(); i++) {
            int marks = notes.get(i)[1];
            boolean w = i + 1 < notes.size() && notes.get(i + 1)[3] == notes.get(i)[3] && (notes.get(i + 1)[1] & 8) != 0;
            notes.get(i)[7] = 2 + 2 * (marks & 1) + (marks >> 1 & 1) + (w ? 1 : 0) - (marks >> 4 & 1);
        }
    }

    /** The ways of a whole group are cut down from its end till a neume has them. */
    private int takeNeumes(int first, String ways) {
        int taken = ways.length();
        while (!NEUMES.contains(ways.substring(0, taken))) {
            taken--;
        }
        int kind = taken == 0 ? 1 + (notes.get(first)[1] >> 2 & 1) : 1 + NEUMES.indexOf(ways.substring(0, taken));
        for (int i = first; i <= first + taken; i++) {
            notes.get(i)[4] = neumes.size();
        }
        neumes.add(new int[] {kind, first, taken + 1, notes.get(first + taken)[1] >> 4});
        int next = first + taken + 1;
        return ways.length() <= taken ? next : takeNeumes(next, ways.substring(taken + 1));
    }

    int guide(int i) {
        int next = ends.get(i)[0];
        if (next == notes.size()) {
            return -100;
        }
        int height = notes.get(next)[5] + ends.get(i)[1];
        return height >= 0 && height <= 12 ? height : -100;
    }

    int[] mode() {
        int last = notes.get(notes.size() - 1)[5];
        int low = notes.stream().mapToInt(n -> n[5]).min().getAsInt();
        int high = notes.stream().mapToInt(n -> n[5]).max().getAsInt();
        int mode = new int[] {0, 1, 3, 5, 7, 0, 0}[(last + 70) % 7];
        mode += mode > 0 && low + 3 <= last && high <= last + 5 ? 1 : 0;
        int tenor = mode == 0 ? -100 : last + "42534243".charAt(mode - 1) - '0';
        return new int[] {mode, last, tenor, low, high};
    }
}
