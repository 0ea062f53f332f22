/** Promise 19: count. */
public final class CountTest {
    public static void main(String[] args) {
        Chant x = Check.of("(c4) Ky'(fghij,k)ri(gx/fw~)e(h gf::z) e(c3gfezz)lei()");
        Check.due("counts", Check.row(9, x::count), "6 13 6 7 2 3 3 0 2");
        x.feed(0, 0, 0, 0, 0);
        Check.due("count(7)", x.count(7), 20);
        Check.due("count(9)", x.count(9), -102);
        Check.due("count(-1)", x.count(-1), -102);
        Check.due("count(MIN)", x.count(Integer.MIN_VALUE), -102);
        Check.due("counts", Check.row(9, Check.of(" a  b(f)")::count), "2 1 1 1 0 0 2 0 1");
        Check.finish();
    }
}
