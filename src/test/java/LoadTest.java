/** Promises 10 and 11: load and value. */
public final class LoadTest {
    public static void main(String[] args) {
        ScanRows rows = new ScanRows(0);
        Check.noIndex("load(0) without latches", () -> rows.load(0, 1));
        Check.noIndex("value(0) without latches", () -> rows.value(0));
        rows.latch(0, 0, 0);
        rows.latch(0, 0, 0);
        Check.due("at first", rows.value(0), 0);
        for (int v : new int[] {1, 2, -1, Integer.MIN_VALUE, Integer.MAX_VALUE}) {
            rows.load(0, 0);
            Check.due("behind 0", rows.value(0), 0);
            rows.load(0, v);
            Check.due("behind " + v, rows.value(0), 1);
            Check.due("the other one", rows.value(1), 0);
        }
        for (int latch : new int[] {-1, 2, 31, 32, Integer.MIN_VALUE, Integer.MAX_VALUE}) {
            Check.noIndex("load(" + latch + ")", () -> rows.load(latch, 1));
            Check.noIndex("value(" + latch + ")", () -> rows.value(latch));
        }
        rows.latch(0, 0, 0);
        Check.due("a refused one left nothing", rows.value(2), 0);
        Check.end();
    }
}
