/** Promise 18, at: the first and the last byte, those beside them, and what was WRITTEN last. */
public final class Edge18AtTest {
    public static void main(String[] args) {
        beforeAnyWriting();
        firstAndLast();
        ofTheLast();
        ofNothing();
        full();
        noneLeaves();
        Check.finish();
    }

    private static void none(Chant x, int... places) {
        for (int i : places) {
            Check.due("at(" + i + ")", x.at(i), Check.NONE);
        }
    }

    private static void beforeAnyWriting() {
        Check.promise(18, "NONE: nothing was WRITTEN yet");
        none(new Chant(), 0, 1, -1, 1499, 1500, Check.MIN, Check.MAX);
        none(Check.of("abc"), 0, 1, 2, 3, -1);
    }

    private static void firstAndLast() {
        Check.promise(18, "Byte i .. NONE");
        Chant x = Check.of("ab(g)");
        Check.due("write()", x.write(), 5);
        Check.due("at(0)", x.at(0), 'a');
        Check.due("at(1)", x.at(1), 'b');
        Check.due("at(4)", x.at(4), ')');
        none(x, -1, 5, 6, 1499, 1500, Check.MIN, Check.MAX);
        Chant y = Check.of("Z");
        y.write();
        Check.due("at(0) of one byte", y.at(0), 'Z');
        none(y, -1, 1);
    }

    private static void ofTheLast() {
        Check.promise(18, "of what was WRITTEN last: till the next write()");
        Chant x = Check.of("abc");
        x.write();
        Check.read(x, "de");
        Check.due("at(0) behind a read()", x.at(0), 'a');
        Check.due("at(2) behind a read()", x.at(2), 'c');
        Check.read(x, "(");
        Check.due("at(2) behind a fault", x.at(2), 'c');
        x.feed(0, 0, 0, 0, 0);
        x.end(0);
        Check.due("at(2) behind feed() and end()", x.at(2), 'c');
        none(x, 3, -1);
        Check.read(x, "de");
        x.write();
        Check.due("at(0) behind write()", x.at(0), 'd');
        Check.due("at(1) behind write()", x.at(1), 'e');
        none(x, 2, -1);
    }

    private static void ofNothing() {
        Check.promise(18, "NONE: nothing was WRITTEN last");
        Chant x = Check.of("abc");
        x.write();
        x.read();
        Check.due("write() of nothing", x.write(), 0);
        none(x, 0, 1, 2, -1);
        Chant y = new Chant();
        y.write();
        none(y, 0, -1);
    }

    private static void full() {
        Check.promise(18, "Byte i of 1,500");
        Chant x = Check.of("a" + "b".repeat(1498) + "c");
        Check.due("write()", x.write(), 1500);
        Check.due("at(0)", x.at(0), 'a');
        Check.due("at(1)", x.at(1), 'b');
        Check.due("at(1498)", x.at(1498), 'b');
        Check.due("at(1499)", x.at(1499), 'c');
        none(x, 1500, 1501, -1, -1500, Check.MIN, Check.MAX);
    }

    private static void noneLeaves() {
        Check.promise(18, "NONE .. and nothing changes");
        Chant x = Check.busy();
        Check.refused(x, "at(-1)", Check.NONE, () -> x.at(-1));
        Check.refused(x, "at(21)", Check.NONE, () -> x.at(21));
        Check.tapeIs(x, "AB");
    }
}
