/**
 * An object of ChantNeumes as the tests use it: its calls are counted, since the document leaves free
 * what an object answers behind its 512th call, and a test must not lean on that.
 */
final class Chant {
    static final int CALLS = 512;

    private final ChantNeumes it = new ChantNeumes();
    private int calls = 0;

    int calls() {
        return calls;
    }

    private ChantNeumes next() {
        calls++;
        if (calls > CALLS) {
            throw new IllegalStateException("a test makes more than 512 calls on one object");
        }
        return it;
    }

    int feed(int a, int b, int c, int d, int e) {
        return next().feed(a, b, c, d, e);
    }

    int end(int n) {
        return next().end(n);
    }

    int read() {
        return next().read();
    }

    int place() {
        return next().place();
    }

    int syllable(int i, int what) {
        return next().syllable(i, what);
    }

    int note(int i, int what) {
        return next().note(i, what);
    }

    int neume(int i, int what) {
        return next().neume(i, what);
    }

    int bar(int i, int what) {
        return next().bar(i, what);
    }

    int guide(int i) {
        return next().guide(i);
    }

    int mode(int what) {
        return next().mode(what);
    }

    int tone(int t) {
        return next().tone(t);
    }

    int point(int half, boolean accent) {
        return next().point(half, accent);
    }

    int fresh() {
        return next().fresh();
    }

    int half(int half, int what) {
        return next().half(half, what);
    }

    int sung(int half, int k, int what) {
        return next().sung(half, k, what);
    }

    int write() {
        return next().write();
    }

    int at(int i) {
        return next().at(i);
    }

    int count(int what) {
        return next().count(what);
    }
}
