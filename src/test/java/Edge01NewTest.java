/** Promise 1, a new object: each thing in it that is empty. */
public final class Edge01NewTest {
    public static void main(String[] args) {
        emptyTape();
        textOfNothing();
        verseOfNothing();
        toneOne();
        nothingElse();
        objectsApart();
        constants();
        Check.finish();
    }

    private static void emptyTape() {
        Check.promise(1, "An empty tape");
        Check.due("count(7)", new Chant().count(7), 0);
        Check.due("end(0)", new Chant().end(0), 0);
        Check.due("end(1)", new Chant().end(1), Check.OUTSIDE);
        Check.due("the first feed()", new Chant().feed(0, 0, 0, 0, 0), 20);
        Chant x = new Chant();
        Check.due("read()", x.read(), 0);
        Check.due("place()", x.place(), Check.NONE);
        Check.due("count(0) behind it", x.count(0), 0);
    }

    private static void textOfNothing() {
        Check.promise(1, "a text of nothing");
        Chant x = new Chant();
        Check.due("counts", Check.row(9, x::count), "0 0 0 0 0 0 0 0 0");
        Check.bounds("syllable", 0, 6, x::syllable);
        Check.bounds("note", 0, 8, x::note);
        Check.bounds("neume", 0, 4, x::neume);
        Check.bounds("bar", 0, 2, x::bar);
        Check.due("guide(0)", x.guide(0), Check.UNKNOWN);
        Check.due("mode", Check.row(5, x::mode), "-103 -103 -103 -103 -103");
        Check.due("write()", x.write(), 0);
        Check.due("at(0)", x.at(0), Check.NONE);
    }

    private static void verseOfNothing() {
        Check.promise(1, "a VERSE of nothing");
        for (int h = 0; h < 2; h++) {
            int half = h;
            Chant x = new Chant();
            Check.due("half", Check.row(4, what -> x.half(half, what)), "0 1 -100 -100");
            Check.due("sung(.., 0, 0)", x.sung(half, 0, 0), Check.NONE);
            Check.due("sung(.., 0, 1)", x.sung(half, 0, 1), Check.NONE);
            Check.due("the first point()", x.point(half, true), 1);
        }
        Check.due("fresh()", new Chant().fresh(), 0);
    }

    private static void toneOne() {
        Check.promise(1, "TONE 1");
        for (int t = 1; t <= 8; t++) {
            Check.due("tone(" + t + ")", new Chant().tone(t), 1);
        }
        // As it is sung: of the second halves the first TONE's alone ends 3 below behind a -1.
        Chant x = new Chant();
        for (int i = 0; i < 6; i++) {
            x.point(1, i == 3);
        }
        Check.due("sung by it", Check.row(6, k -> x.sung(1, k, 1)), "0 -1 -2 -1 -1 -3");
    }

    private static void nothingElse() {
        Check.promise(1, "A new object: no read(), no write() has been");
        Check.due("place()", new Chant().place(), Check.NONE);
        Check.due("at(0)", new Chant().at(0), Check.NONE);
    }

    private static void objectsApart() {
        Check.promise(1, "a new object, whatever others have done");
        Chant first = new Chant();
        String before = Check.state(first);
        Chant busy = Check.busy();
        Check.due("an older object's state", Check.state(first), before);
        Check.due("a newer object's state", Check.state(new Chant()), before);
        first.read();
        first.fresh();
        first.tone(8);
        Check.due("tone(1) of the busy one", busy.tone(1), 5);
        Check.tapeIs(busy, "AB");
    }

    private static void constants() {
        Check.promise(1, "the numbers that calls answer");
        Check.due("NONE", ChantNeumes.NONE, -100);
        Check.due("UNKNOWN", ChantNeumes.UNKNOWN, -101);
        Check.due("OUTSIDE", ChantNeumes.OUTSIDE, -102);
        Check.due("STATE", ChantNeumes.STATE, -103);
        Check.due("ROOM", ChantNeumes.ROOM, -104);
    }
}
