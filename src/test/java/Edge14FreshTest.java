/** Promise 14, fresh: a VERSE of nothing, a full one, and what it leaves. */
public final class Edge14FreshTest {
    public static void main(String[] args) {
        howMany();
        ofNothingAgain();
        leavesTheRest();
        Check.finish();
    }

    private static Chant verse(int first, int second) {
        Chant x = new Chant();
        for (int i = 0; i < first; i++) {
            x.point(0, true);
        }
        for (int i = 0; i < second; i++) {
            x.point(1, true);
        }
        return x;
    }

    private static void howMany() {
        Check.promise(14, "how many SYLLABLES it had");
        Check.due("fresh() of nothing", verse(0, 0).fresh(), 0);
        Check.due("fresh() of one", verse(1, 0).fresh(), 1);
        Check.due("fresh() of one in the second", verse(0, 1).fresh(), 1);
        Check.due("fresh() of 3 and 2", verse(3, 2).fresh(), 5);
        Check.due("fresh() of 40 and none", verse(40, 0).fresh(), 40);
        Check.due("fresh() of none and 40", verse(0, 40).fresh(), 40);
        Check.due("fresh() of all 80", verse(40, 40).fresh(), 80);
        Chant x = verse(40, 40);
        x.point(0, true);
        x.point(1, true);
        Check.due("fresh() behind two that were refused", x.fresh(), 80);
    }

    private static void ofNothingAgain() {
        Check.promise(14, "The VERSE is of nothing again");
        String nothing = Check.state(new Chant());
        for (int n : new int[] {0, 1, 40}) {
            Chant x = verse(n, n);
            x.fresh();
            Check.due("the state then", Check.state(x), nothing);
            Check.due("fresh() again", x.fresh(), 0);
            Check.due("point(0)", x.point(0, false), 1);
            Check.due("point(1)", x.point(1, false), 1);
            // No ACCENT of the verse before is left.
            x.point(0, false);
            x.point(0, false);
            Check.due("half(0, 3)", x.half(0, 3), 1);
            Check.due("fresh()", x.fresh(), 4);
        }
    }

    private static void leavesTheRest() {
        Check.promise(14, "The VERSE: the TONE, the text and the tape stay");
        Chant x = Check.of("Ky'(fgx g.)e(c3h,z) a");
        x.write();
        Check.feed(x, "AB");
        x.tone(5);
        String before = Check.state(x);
        x.point(0, true);
        x.point(1, true);
        Check.due("fresh()", x.fresh(), 2);
        Check.due("the state behind it", Check.state(x), before);
        Check.tapeIs(x, "AB");
        Check.due("tone(1)", x.tone(1), 5);
    }
}
