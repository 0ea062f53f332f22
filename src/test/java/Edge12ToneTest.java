/** Promise 12, tone: the first and the last TONE, and those beside them. */
public final class Edge12ToneTest {
    public static void main(String[] args) {
        firstToLast();
        outside();
        refusedLeaves();
        keeps();
        Check.finish();
    }

    private static void firstToLast() {
        Check.promise(12, "The TONE: what it was; a TONE, 1 to 8");
        Chant x = new Chant();
        Check.due("tone(1) of a new object", x.tone(1), 1);
        for (int t = 2; t <= 8; t++) {
            Check.due("tone(" + t + ")", x.tone(t), t - 1);
            Check.due("tone(" + t + ") again", x.tone(t), t);
        }
        Check.due("tone(1)", x.tone(1), 8);
        Check.due("tone(8)", x.tone(8), 1);
    }

    private static void outside() {
        Check.promise(12, "OUTSIDE");
        for (int t : new int[] {0, -1, 9, 10, Check.MIN, Check.MAX}) {
            Chant x = new Chant();
            Check.due("tone(" + t + ")", x.tone(t), Check.OUTSIDE);
            Check.due("tone(8) behind it", x.tone(8), 1);
            Check.due("tone(" + t + ") again", x.tone(t), Check.OUTSIDE);
            Check.due("tone(1) behind it", x.tone(1), 8);
        }
    }

    private static void refusedLeaves() {
        Check.promise(12, "OUTSIDE .. then nothing changes");
        for (int t : new int[] {0, 9, Check.MIN, Check.MAX}) {
            Chant x = Check.busy();
            Check.refused(x, "tone(" + t + ")", Check.OUTSIDE, () -> x.tone(t));
            Check.tapeIs(x, "AB");
        }
    }

    private static void keeps() {
        Check.promise(12, "The TONE: other calls leave it, and it leaves the VERSE");
        Chant x = new Chant();
        x.tone(6);
        x.point(0, true);
        x.fresh();
        Check.read(x, "a(g)");
        x.read();
        Check.read(x, ")");
        Check.due("tone(7)", x.tone(7), 6);
        x.point(0, true);
        x.point(1, true);
        x.tone(2);
        Check.due("fresh()", x.fresh(), 2);
    }
}
