/** Promise 2, feed: its twenty bytes, the room of the tape, and what a refused one leaves. */
public final class Edge02FeedTest {
    private static final int A4 = 0x61616161, X4 = 0x58585858;

    public static void main(String[] args) {
        eachOfTwenty();
        highestFirst();
        behindTheTape();
        anyNumber();
        room();
        refusedLeaves();
        roomAgain();
        Check.finish();
    }

    private static void eachOfTwenty() {
        Check.promise(2, "Twenty bytes come behind the tape");
        String letters = "ABCDEFGHIJKLMNOPQRST";
        Check.due("all twenty in order", Check.writtenOf(letters), letters);
        for (int p = 0; p < 20; p++) {
            // 'A' with its highest bit: no letter, however a program treats that bit.
            String spoiled = letters.substring(0, p) + '\u00C1' + letters.substring(p + 1);
            Check.faults(new Chant(), spoiled, 1, p);
        }
    }

    private static void highestFirst() {
        Check.promise(2, "each number's highest first");
        Chant x = new Chant();
        Check.due("feed()", x.feed(0x41424344, 0x45464748, 0x494A4B4C, 0x4D4E4F50, 0x51525354), 20);
        x.read();
        Check.due("written", Check.written(x), "ABCDEFGHIJKLMNOPQRST");
        for (int shift = 0; shift < 32; shift += 8) {
            Chant y = new Chant();
            y.feed(A4, A4, A4 & ~(255 << shift) | 255 << shift, A4, A4);
            Check.due("read()", y.read(), -11);
            Check.due("place() of the byte " + shift + " bits up", y.place(), 8 + (24 - shift) / 8);
        }
    }

    private static void behindTheTape() {
        Check.promise(2, "behind the tape");
        Chant x = new Chant();
        Check.due("feed()", x.feed(A4, A4, A4, A4, A4), 20);
        Check.due("end(1)", x.end(1), 1);
        Check.due("feed() behind one byte", x.feed(X4, X4, X4, X4, X4), 21);
        Check.due("end(3)", x.end(3), 3);
        Check.due("feed() behind three", x.feed(A4, A4, A4, A4, 0x42424242), 23);
        x.read();
        Check.due("written", Check.written(x), "aXXaaaaaaaaaaaaaaaaBBBB");
    }

    private static void anyNumber() {
        Check.promise(2, "bytes of any number, the lowest and the highest too");
        Chant x = new Chant();
        Check.due("feed(MIN, MAX, -1, 0, 1)", x.feed(Check.MIN, Check.MAX, -1, 0, 1), 20);
        Check.due("feed(0, 0, 0, 0, 0)", x.feed(0, 0, 0, 0, 0), 40);
        Check.due("feed(-1, -1, -1, -1, -1)", x.feed(-1, -1, -1, -1, -1), 60);
    }

    private static Chant full() {
        Chant x = new Chant();
        for (int i = 1; i <= 75; i++) {
            Check.due("feed() " + i, x.feed(A4, A4, A4, A4, A4), 20 * i);
        }
        return x;
    }

    private static void room() {
        Check.promise(2, "(1,500 at most) .. ROOM");
        Check.due("the 76th feed()", full().feed(A4, A4, A4, A4, A4), Check.ROOM);
        for (int n = 1481; n <= 1500; n++) {
            Chant x = full();
            x.end(n);
            Check.due("feed() behind " + n, x.feed(X4, X4, X4, X4, X4), Check.ROOM);
            Check.due("the tape behind it", x.count(7), n);
        }
        for (int n : new int[] {0, 1, 1461, 1479, 1480}) {
            Chant x = full();
            x.end(n);
            Check.due("feed() behind " + n, x.feed(X4, X4, X4, X4, X4), n + 20);
        }
    }

    private static void refusedLeaves() {
        Check.promise(2, "ROOM .. then nothing changes");
        for (int n : new int[] {1481, 1490, 1500}) {
            Chant x = Check.of("Ky'(fg.)e(c3h,z)");
            x.write();
            x.tone(5);
            x.point(0, true);
            for (int i = 0; i < 75; i++) {
                x.feed(A4, A4, A4, A4, A4);
            }
            x.end(n);
            Check.refused(x, "feed() behind " + n, Check.ROOM, () -> x.feed(X4, X4, X4, X4, X4));
            Check.due("feed() again", x.feed(-1, -1, -1, -1, -1), Check.ROOM);
            Check.due("read() of the tape", x.read(), 0);
            Check.due("write() of the tape", x.write(), n);
            Check.due("its last bytes", Check.bytes(x, n - 21, n), "a".repeat(21));
        }
    }

    private static void roomAgain() {
        Check.promise(2, "the room is the tape's, so what leaves the tape makes room");
        Chant x = full();
        x.end(0);
        Check.due("feed() behind end(0)", x.feed(A4, A4, A4, A4, A4), 20);
        Chant y = full();
        Check.due("read()", y.read(), 0);
        Check.due("feed() behind read()", y.feed(A4, A4, A4, A4, A4), 20);
        Chant z = full();
        z.end(1480);
        z.feed(-1, 0, 0, 0, 0);
        Check.due("read() with a fault", z.read(), -11);
        Check.due("feed() behind a fault", z.feed(A4, A4, A4, A4, A4), 20);
    }
}
