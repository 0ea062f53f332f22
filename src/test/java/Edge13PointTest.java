/** Promise 13, point: the HALVES, the first and the last SYLLABLE, and what a refused one leaves. */
public final class Edge13PointTest {
    public static void main(String[] args) {
        room();
        roomsApart();
        outside();
        outsideBeforeRoom();
        roomLeaves();
        outsideLeaves();
        accents();
        Check.finish();
    }

    private static Chant filled(int half, int count) {
        Chant x = new Chant();
        for (int i = 1; i <= count; i++) {
            Check.due("point(" + half + ") " + i, x.point(half, i % 3 == 0), i);
        }
        return x;
    }

    private static void room() {
        Check.promise(13, "how many that has; 40 at most in each .. ROOM");
        for (int half = 0; half < 2; half++) {
            for (boolean accent : new boolean[] {false, true}) {
                Check.due("the first", new Chant().point(half, accent), 1);
                Check.due("the 40th", filled(half, 39).point(half, accent), 40);
                Check.due("the 41st", filled(half, 40).point(half, accent), Check.ROOM);
            }
            Chant x = filled(half, 40);
            x.point(half, true);
            Check.due("the 42nd", x.point(half, true), Check.ROOM);
            Check.due("fresh()", x.fresh(), 40);
            Check.due("the first behind fresh()", x.point(half, true), 1);
        }
    }

    private static void roomsApart() {
        Check.promise(13, "40 at most in each: a full HALF takes none of the other's room");
        for (int half = 0; half < 2; half++) {
            Chant x = filled(half, 40);
            for (int i = 1; i <= 40; i++) {
                Check.due("point() of the other", x.point(1 - half, false), i);
            }
            Check.due("the 41st of the other", x.point(1 - half, false), Check.ROOM);
            Check.due("fresh()", x.fresh(), 80);
        }
    }

    private static void outside() {
        Check.promise(13, "its HALF (0, 1) .. OUTSIDE");
        for (int half : new int[] {-1, 2, 3, Check.MIN, Check.MAX}) {
            Chant x = new Chant();
            Check.due("point(" + half + ", true)", x.point(half, true), Check.OUTSIDE);
            Check.due("point(" + half + ", false)", x.point(half, false), Check.OUTSIDE);
            Check.due("fresh()", x.fresh(), 0);
        }
    }

    private static void outsideBeforeRoom() {
        Check.promise(13, "OUTSIDE; ROOM, the first that fits");
        Chant x = filled(0, 40);
        for (int i = 0; i < 40; i++) {
            x.point(1, true);
        }
        Check.due("point(-1)", x.point(-1, true), Check.OUTSIDE);
        Check.due("point(2)", x.point(2, true), Check.OUTSIDE);
        Check.due("point(0)", x.point(0, true), Check.ROOM);
        Check.due("point(1)", x.point(1, true), Check.ROOM);
    }

    private static void roomLeaves() {
        Check.promise(13, "ROOM .. then nothing changes");
        for (int h = 0; h < 2; h++) {
            int half = h;
            Chant x = filled(half, 40);
            Check.refused(x, "point() of a full HALF", Check.ROOM, () -> x.point(half, true));
            Chant y = filled(half, 40);
            Check.refused(y, "point() of a full HALF", Check.ROOM, () -> y.point(half, false));
        }
    }

    private static void outsideLeaves() {
        Check.promise(13, "OUTSIDE .. then nothing changes");
        Chant x = Check.busy();
        Check.refused(x, "point(2, true)", Check.OUTSIDE, () -> x.point(2, true));
        Check.refused(x, "point(-1, true)", Check.OUTSIDE, () -> x.point(-1, true));
        Check.due("fresh()", x.fresh(), 3);
        Check.tapeIs(x, "AB");
    }

    private static void accents() {
        Check.promise(13, "SYLLABLES with and without ACCENT: from the first to the 40th");
        for (int half = 0; half < 2; half++) {
            for (int at : new int[] {0, 1, 20, 38, 39}) {
                Chant x = new Chant();
                x.tone(2);
                for (int i = 0; i < 40; i++) {
                    x.point(half, i == at);
                }
                Check.due("half(.., 3) with the ACCENT at " + at, x.half(half, 3), at);
            }
        }
    }
}
