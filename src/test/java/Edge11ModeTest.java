/** Promise 11, mode: each FINAL, the bounds of PLAGAL, a text without NOTES, and numbers out of bounds. */
public final class Edge11ModeTest {
    public static void main(String[] args) {
        finals();
        oneNote();
        lowest();
        highest();
        withoutMode();
        tenors();
        lastNote();
        state();
        outside();
        refusedLeaves();
        Check.finish();
    }

    private static void mode(String text, String want) {
        Check.due("mode of \"" + text + "\"", Check.row(5, Check.of(text)::mode), want);
    }

    private static void finals() {
        Check.promise(11, "of the FINAL .. mod 7: D 1, E 3, F 5, G 7, others 0; below STEP 0 too: floor");
        int[] modes = {0, 1, 3, 5, 7, 0, 0};
        // f4 a is STEP -13, f4 m is -1; c1 a is -3, c1 m is 9.
        for (int height = 0; height <= 12; height++) {
            char letter = (char) ('a' + height);
            Chant low = Check.of("(f4" + letter + ")");
            Check.due("MODE of STEP " + (height - 13), low.mode(0), modes[(height - 13 + 14) % 7]);
            Check.due("FINAL", low.mode(1), height - 13);
            Chant high = Check.of("(c1" + letter + ")");
            Check.due("MODE of STEP " + (height - 3), high.mode(0), modes[(height - 3 + 14) % 7]);
            Check.due("FINAL", high.mode(1), height - 3);
        }
    }

    private static void oneNote() {
        Check.promise(11, "of one NOTE the lowest, the highest and the FINAL are the same");
        mode("(d)", "1 -6 -2 -6 -6");
        mode("(e)", "3 -5 0 -5 -5");
        mode("(f)", "5 -4 0 -4 -4");
        mode("(g)", "7 -3 1 -3 -3");
        mode("(h)", "0 -2 -100 -2 -2");
        mode("(f4a)", "1 -13 -9 -13 -13");
        mode("(c1m)", "3 9 14 9 9");
    }

    private static void lowest() {
        Check.promise(11, "PLAGAL, one more, if the lowest NOTE is 3 STEPS or more below the FINAL");
        String[] finals = {"d", "e", "f", "g"};
        int[] heights = {3, 4, 5, 6};
        for (int i = 0; i < 4; i++) {
            for (int below = 0; below <= Math.min(5, heights[i]); below++) {
                String low = String.valueOf((char) ('a' + heights[i] - below));
                int mode = 2 * i + 1 + (below >= 3 ? 1 : 0);
                Check.due("MODE, " + below + " below", Check.of("(" + low + finals[i] + ")").mode(0), mode);
                Check.due("lowest STEP", Check.of("(" + low + finals[i] + ")").mode(3), heights[i] - below - 9);
            }
        }
    }

    private static void highest() {
        Check.promise(11, "and the highest at most 5 above it");
        String[] lows = {"a", "b", "c", "d"};
        String[] finals = {"d", "e", "f", "g"};
        int[] heights = {3, 4, 5, 6};
        for (int i = 0; i < 4; i++) {
            for (int above = 0; above <= 6; above++) {
                String high = String.valueOf((char) ('a' + heights[i] + above));
                Chant x = Check.of("(" + lows[i] + high + finals[i] + ")");
                Check.due("MODE, " + above + " above", x.mode(0), 2 * i + 1 + (above <= 5 ? 1 : 0));
                Check.due("highest STEP", x.mode(4), heights[i] + above - 9);
            }
            // High alone makes none PLAGAL.
            String high = String.valueOf((char) ('a' + heights[i] + 5));
            Check.due("MODE, 5 above and none below", Check.of("(" + high + finals[i] + ")").mode(0), 2 * i + 1);
        }
        // By STEPS, whatever the clefs.
        mode("(c4a c1a)", "8 -3 0 -9 -3");
        mode("(c1m c4d)", "1 -6 -2 -6 9");
    }

    private static void withoutMode() {
        Check.promise(11, "others 0 (none); the TENOR's STEP (2; NONE without MODE)");
        mode("(h)", "0 -2 -100 -2 -2");
        mode("(i)", "0 -1 -100 -1 -1");
        mode("(j)", "0 0 -100 0 0");
        mode("(c)", "0 -7 -100 -7 -7");
        // None is not PLAGAL either.
        mode("(eh)", "0 -2 -100 -5 -2");
        mode("(fi)", "0 -1 -100 -4 -1");
        mode("(gj)", "0 0 -100 -3 0");
    }

    private static void tenors() {
        Check.promise(11, "The TENOR is above the FINAL by 4 2 5 3 4 2 4 3 STEPS (MODES 1 to 8)");
        String[] texts = {"(d)", "(ad)", "(e)", "(be)", "(f)", "(cf)", "(g)", "(dg)"};
        int[] above = {4, 2, 5, 3, 4, 2, 4, 3};
        for (int i = 0; i < 8; i++) {
            Chant x = Check.of(texts[i]);
            Check.due("MODE of " + texts[i], x.mode(0), i + 1);
            Check.due("TENOR of " + texts[i], x.mode(2), x.mode(1) + above[i]);
        }
    }

    private static void lastNote() {
        Check.promise(11, "the FINAL (the last NOTE's STEP)");
        mode("(gd)", "1 -6 -2 -6 -3");
        mode("(dg)", "8 -3 0 -6 -3");
        mode("(g)a(d) b(gxgy,zc1) c", "1 -6 -2 -6 -3");
        // A FLAT changes no STEP.
        mode("(dxd)", "1 -6 -2 -6 -6");
        Chant x = Check.of("(am)(g)");
        Check.read(x, "(g)");
        Check.due("mode behind a wider text", Check.row(5, x::mode), "7 -3 1 -3 -3");
        Chant y = Check.of("(" + "m".repeat(149) + "d)");
        Check.due("mode of 150 NOTES", Check.row(5, y::mode), "1 -6 -2 -6 3");
    }

    private static void state() {
        Check.promise(11, "STATE: there are no NOTES");
        for (String text : new String[] {"", " ", "a", "a()", "(c4gxgy,z)"}) {
            mode(text, "-103 -103 -103 -103 -103");
        }
        Chant x = Check.of("(g)");
        x.read();
        Check.due("mode behind an empty tape", Check.row(5, x::mode), "-103 -103 -103 -103 -103");
        Check.read(x, "(g");
        Check.due("mode behind a fault", Check.row(5, x::mode), "-103 -103 -103 -103 -103");
    }

    private static void outside() {
        Check.promise(11, "OUTSIDE; STATE, the first that fits");
        for (int what : new int[] {-1, 5, 6, Check.MIN, Check.MAX}) {
            Check.due("mode(" + what + ")", Check.of("(g)").mode(what), Check.OUTSIDE);
            Check.due("mode(" + what + ") without NOTES", new Chant().mode(what), Check.OUTSIDE);
        }
        Check.due("mode(0)", Check.of("(g)").mode(0), 7);
        Check.due("mode(4)", Check.of("(g)").mode(4), -3);
        Check.due("mode(0) without NOTES", new Chant().mode(0), Check.STATE);
        Check.due("mode(4) without NOTES", new Chant().mode(4), Check.STATE);
    }

    private static void refusedLeaves() {
        Check.promise(11, "OUTSIDE; STATE .. then nothing changes");
        Chant x = Check.busy();
        Check.refused(x, "mode(5)", Check.OUTSIDE, () -> x.mode(5));
        Check.tapeIs(x, "AB");
        Check.refused(x, "mode(0)", Check.STATE, () -> x.mode(0));
    }
}
