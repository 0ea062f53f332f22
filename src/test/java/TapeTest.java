/** Promises 2 (feed) and 3 (end), and the tape that read() empties. */
public final class TapeTest {
    private static final int BLANKS = 0x20202020;

    public static void main(String[] args) {
        orderOfBytes();
        room();
        ends();
        emptyBehindRead();
        Check.finish();
    }

    private static void orderOfBytes() {
        Chant x = new Chant();
        Check.due("feed", x.feed(0x41424344, 0x45464748, 0x494A4B4C, 0x4D4E4F50, 0x51525354), 20);
        Check.due("feed", x.feed(0x55565758, 0x595A6162, 0x63646566, 0x6768696A, 0x6B6C6D6E), 40);
        x.read();
        Check.due("written", Check.written(x), "ABCDEFGHIJKLMNOPQRSTUVWXYZabcdefghijklmn");
        // A byte of over 127 is not a letter, whichever way its sign would go.
        Check.due("feed", x.feed(0x41FFFFFF, -1, -1, -1, -1), 20);
        Check.due("read()", x.read(), -11);
        Check.due("place()", x.place(), 1);
        Check.due("feed", x.feed(0x8141E128, BLANKS, BLANKS, BLANKS, BLANKS), 20);
        Check.due("read()", x.read(), -11);
        Check.due("place()", x.place(), 0);
    }

    private static void room() {
        Chant x = new Chant();
        for (int i = 1; i <= 75; i++) {
            Check.due("feed", x.feed(BLANKS, BLANKS, BLANKS, BLANKS, BLANKS), 20 * i);
        }
        Check.due("the 76th feed", x.feed(0, 0, 0, 0, 0), -104);
        Check.due("count(7)", x.count(7), 1500);
        Check.due("end(1481)", x.end(1481), 1481);
        Check.due("feed at 1481", x.feed(0, 0, 0, 0, 0), -104);
        Check.due("count(7)", x.count(7), 1481);
        Check.due("end(1480)", x.end(1480), 1480);
        Check.due("feed at 1480", x.feed(BLANKS, BLANKS, BLANKS, BLANKS, BLANKS), 1500);
        Check.due("read()", x.read(), 0);
        Check.due("count(6)", x.count(6), 0);
    }

    private static void ends() {
        Chant x = new Chant();
        Check.due("end(0)", x.end(0), 0);
        Check.due("end(1)", x.end(1), -102);
        Check.due("end(-1)", x.end(-1), -102);
        x.feed(0x41424344, BLANKS, BLANKS, BLANKS, BLANKS);
        Check.due("end(21)", x.end(21), -102);
        Check.due("end(MIN)", x.end(Integer.MIN_VALUE), -102);
        Check.due("end(MAX)", x.end(Integer.MAX_VALUE), -102);
        Check.due("count(7)", x.count(7), 20);
        Check.due("end(20)", x.end(20), 20);
        Check.due("end(2)", x.end(2), 2);
        Check.due("end(3)", x.end(3), -102);
        Check.due("feed behind", x.feed(0x61626364, BLANKS, BLANKS, BLANKS, BLANKS), 22);
        x.read();
        Check.due("written", Check.written(x), "ABabcd");
    }

    private static void emptyBehindRead() {
        Chant x = new Chant();
        Check.feed(x, "A(fg)");
        Check.due("count(7)", x.count(7), 5);
        Check.due("count(1)", x.count(1), 0);
        Check.due("read()", x.read(), 2);
        Check.due("count(7)", x.count(7), 0);
        Check.due("read()", x.read(), 0);
        Check.due("count(0)", x.count(0), 0);
        Check.feed(x, "A)");
        Check.due("read()", x.read(), -11);
        Check.due("count(7)", x.count(7), 0);
    }
}
