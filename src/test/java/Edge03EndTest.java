/** Promise 3, end: the smallest and the largest n, and those beside them. */
public final class Edge03EndTest {
    private static final int A4 = 0x61616161;

    public static void main(String[] args) {
        everyLength();
        outside();
        ofNothing();
        ofAFullTape();
        refusedLeaves();
        cutIsGone();
        Check.finish();
    }

    private static Chant fed(int feeds) {
        Chant x = new Chant();
        for (int i = 0; i < feeds; i++) {
            x.feed(A4, A4, A4, A4, A4);
        }
        return x;
    }

    private static void everyLength() {
        Check.promise(3, "The tape keeps its first n bytes: n");
        String letters = "ABCDEFGHIJKLMNOPQRST";
        for (int n = 0; n <= 20; n++) {
            Chant x = new Chant();
            x.feed(0x41424344, 0x45464748, 0x494A4B4C, 0x4D4E4F50, 0x51525354);
            Check.due("end(" + n + ")", x.end(n), n);
            Check.due("count(7)", x.count(7), n);
            Check.due("end(" + n + ") again", x.end(n), n);
            x.read();
            Check.due("what it kept", Check.written(x), letters.substring(0, n));
        }
    }

    private static void outside() {
        Check.promise(3, "OUTSIDE");
        for (int n : new int[] {-1, 21, 22, 1500, 1501, Check.MIN, Check.MAX}) {
            Chant x = fed(1);
            Check.due("end(" + n + ") of 20", x.end(n), Check.OUTSIDE);
            Check.due("count(7)", x.count(7), 20);
        }
        Check.due("end(0) of 20", fed(1).end(0), 0);
        Check.due("end(20) of 20", fed(1).end(20), 20);
    }

    private static void ofNothing() {
        Check.promise(3, "of an empty tape n is 0 alone");
        Check.due("end(0)", fed(0).end(0), 0);
        Check.due("end(1)", fed(0).end(1), Check.OUTSIDE);
        Check.due("end(-1)", fed(0).end(-1), Check.OUTSIDE);
        Chant x = fed(2);
        x.read();
        Check.due("end(1) behind read()", x.end(1), Check.OUTSIDE);
        Check.due("end(0) behind read()", x.end(0), 0);
    }

    private static void ofAFullTape() {
        Check.promise(3, "of a full tape n is 1,500 at most");
        Check.due("end(1501)", fed(75).end(1501), Check.OUTSIDE);
        Check.due("end(1500)", fed(75).end(1500), 1500);
        Check.due("end(1499)", fed(75).end(1499), 1499);
        Check.due("end(0)", fed(75).end(0), 0);
    }

    private static void refusedLeaves() {
        Check.promise(3, "OUTSIDE .. then nothing changes");
        for (int n : new int[] {-1, 3, Check.MIN, Check.MAX}) {
            Chant x = Check.busy();
            Check.refused(x, "end(" + n + ")", Check.OUTSIDE, () -> x.end(n));
            Check.tapeIs(x, "AB");
        }
        Chant y = Check.busy();
        String before = Check.state(y);
        y.end(2);
        Check.due("the state behind an end() that cuts nothing", Check.state(y), before);
    }

    private static void cutIsGone() {
        Check.promise(3, "keeps its first n: those behind do not come back");
        Chant x = fed(1);
        x.end(5);
        Check.due("end(6) behind end(5)", x.end(6), Check.OUTSIDE);
        Check.due("end(20) behind end(5)", x.end(20), Check.OUTSIDE);
        Check.due("feed()", x.feed(0x42424242, 0x42424242, 0x42424242, 0x42424242, 0x42424242), 25);
        Check.due("end(7)", x.end(7), 7);
        x.read();
        Check.due("written", Check.written(x), "aaaaaBB");
    }
}
