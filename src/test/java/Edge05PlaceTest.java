/** Promise 5, place: the first place, the last one, none, and how long it stays. */
public final class Edge05PlaceTest {
    public static void main(String[] args) {
        beforeAnyReading();
        firstAndLast();
        ofTheLatest();
        stays();
        Check.finish();
    }

    private static void beforeAnyReading() {
        Check.promise(5, "NONE: no read() has been");
        Chant x = new Chant();
        Check.due("place()", x.place(), Check.NONE);
        Check.feed(x, ")");
        Check.due("place() with a fault on the tape", x.place(), Check.NONE);
    }

    private static void firstAndLast() {
        Check.promise(5, "The place of the .. FAULT");
        Check.faults(new Chant(), ")", 1, 0);
        Check.faults(new Chant(), "a)", 1, 1);
        Check.faults(new Chant(), "\0", 1, 0);
        Check.faults(new Chant(), "(", 1, 1);
        Check.faults(new Chant(), "a".repeat(1499) + "\u00FF", 1, 1499);
        Check.faults(new Chant(), "a".repeat(1499) + "(", 1, 1500);
        Check.faults(new Chant(), "a".repeat(1496) + "(g..", 3, 1499);
        Check.faults(new Chant(), " ".repeat(1379) + "a ".repeat(60) + "a", 2, 1499);
    }

    private static void ofTheLatest() {
        Check.promise(5, "the latest read()'s FAULT; NONE");
        Chant x = new Chant();
        Check.faults(x, "abc)", 1, 3);
        Check.faults(x, "a)", 1, 1);
        Check.faults(x, "(g..)", 3, 3);
        Check.reads(x, "a(g)", 1);
        Check.faults(x, "a)", 1, 1);
        Check.due("read() of an empty tape", x.read(), 0);
        Check.due("place() behind it", x.place(), Check.NONE);
    }

    private static void stays() {
        Check.promise(5, "the latest read()'s, whatever other calls come behind it");
        Chant x = new Chant();
        Check.faults(x, "abc)", 1, 3);
        x.feed(0, 0, 0, 0, 0);
        Check.due("place() behind feed()", x.place(), 3);
        x.end(0);
        Check.due("place() behind end()", x.place(), 3);
        x.end(-1);
        x.count(9);
        x.mode(0);
        x.note(0, 0);
        Check.due("place() behind refused calls", x.place(), 3);
        x.write();
        x.tone(2);
        x.point(0, true);
        x.fresh();
        Check.due("place() behind the others", x.place(), 3);
        Check.due("place() again", x.place(), 3);
    }
}
