import java.util.ArrayList;
import java.util.Arrays;
import java.util.List;
import java.util.Random;

/** Promises 15 and 16 against a second fitting that reads the document's own lines of tones. */
public final class PsalmModelTest {
    private static final String TONES = "1: -2 -1 | - / 1 0 / -1 -1 / 0 | -1 -2 / -1 -1 / -3."
            + " 2: -2 0 | - / 1 0 / 0 | -1 / -2 -2 / -2. 3: -4 -1 | - / 1 0 / -1 -1 / 0 | 0 / -2 -2 / -1."
            + " 4: -1 -2 | -1 0 / 1 0 / 0 | - / -1 0 / 1 -1 / -2. 5: -4 -2 | - / 1 0 / 0 | - / 1 1 / -1 -1 / -2."
            + " 6: -2 -1 | - / 1 0 / -1 -1 / 0 | -2 -1 / -1 -1 / -2. 7: -1 -2 | - / 2 1 / -1 -1 / 0 | - / 1 0 / -1 -1 / -2."
            + " 8: -3 -2 | - / 1 0 / 0 | 0 -1 / 1 1 / -3.";

    public static void main(String[] args) {
        for (int tone = 1; tone <= 8; tone++) {
            for (int half = 0; half < 2; half++) {
                everyShortVerse(tone, half);
                someLongVerses(tone, half);
            }
        }
        Check.finish();
    }

    private static void everyShortVerse(int tone, int half) {
        for (int length = 0; length <= 8; length++) {
            for (int accents = 0; accents < 1 << length; accents++) {
                StringBuilder verse = new StringBuilder();
                for (int i = 0; i < length; i++) {
                    verse.append((accents >> i & 1) == 1 ? '\'' : '-');
                }
                compare(tone, half, verse.toString());
            }
        }
    }

    private static void someLongVerses(int tone, int half) {
        Random random = new Random(100L * tone + half);
        for (int i = 0; i < 100; i++) {
            StringBuilder verse = new StringBuilder();
            int rarity = 1 + random.nextInt(12);
            for (int left = 9 + random.nextInt(32); left > 0; left--) {
                verse.append(random.nextInt(rarity) == 0 ? '\'' : '-');
            }
            compare(tone, half, verse.toString());
        }
    }

    private static void compare(int tone, int half, String verse) {
        Chant x = PsalmTest.sing(tone, half, verse);
        String got = Check.row(3, i -> x.half(half, i + 1)) + " = " + PsalmTest.steps(x, half);
        Check.due("tone " + tone + ", half " + half + ", " + verse, got, fit(tone, half, verse));
    }

    static String fit(int tone, int half, String verse) {
        if (verse.isEmpty()) {
            return "1 -100 -100 = ";
        }
        String row = TONES.substring(TONES.indexOf(tone + ":") + 2).split("\\.")[0];
        String[] parts = row.split("\\|");
        String[] close = parts[half + 1].split("/");
        List<Integer> opening = half == 0 ? numbers(parts[0]) : new ArrayList<>();
        List<Integer> preparing = numbers(close[0]);
        List<List<Integer>> accents = new ArrayList<>();
        for (int i = 1; i < close.length - 1; i++) {
            accents.add(numbers(close[i]));
        }
        int last = verse.lastIndexOf('\'');
        if (last < 0) {
            last = verse.length() == 1 ? 0 : verse.length() - 2;
        }
        int first = last;
        if (accents.size() == 2) {
            first = verse.substring(0, last).lastIndexOf('\'');
            first = first < 0 ? last - 2 : first;
        }
        boolean isShort = first < 0 || first < opening.size() + preparing.size() + 1;
        if (isShort) {
            opening.clear();
            preparing.clear();
            accents = accents.subList(accents.size() - 1, accents.size());
            first = last;
        }
        String form = (isShort ? 1 : 0) + " " + (accents.size() == 2 ? first : -100) + " " + last;
        return form + " = " + layOut(verse.length(), first, last, opening, preparing, accents,
                numbers(close[close.length - 1]).get(0));
    }

    /** Lays the tenor first and the rest over it, unlike the program, which asks for each syllable. */
    private static String layOut(int n, int first, int last, List<Integer> opening, List<Integer> preparing,
            List<List<Integer>> accents, int lastStep) {
        int[] laid = new int[n];
        for (int i = 0; i < opening.size(); i++) {
            laid[i] = opening.get(i);
        }
        for (int i = 0; i < preparing.size(); i++) {
            laid[first - preparing.size() + i] = preparing.get(i);
        }
        Arrays.fill(laid, first, n, accents.get(0).get(1));
        laid[first] = accents.get(0).get(0);
        Arrays.fill(laid, last, n, accents.get(accents.size() - 1).get(1));
        laid[last] = accents.get(accents.size() - 1).get(0);
        StringBuilder out = new StringBuilder();
        for (int i = 0; i < n; i++) {
            boolean replaced = i == n - 1 && last != n - 1;
            out.append(i == 0 ? "" : " ").append(i).append(':').append(replaced ? lastStep : laid[i]);
        }
        if (last == n - 1) {
            out.append(" ").append(n - 1).append(':').append(lastStep);
        }
        return out.toString();
    }

    private static List<Integer> numbers(String text) {
        List<Integer> found = new ArrayList<>();
        for (String word : text.trim().split(" ")) {
            if (!word.equals("-")) {
                found.add(Integer.parseInt(word));
            }
        }
        return found;
    }
}
