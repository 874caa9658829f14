/** Promise 19: count. */
public final class CountTest {
    public static void main(String[] args) {
        ScanRows rows = new ScanRows(0);
        for (int what : new int[] {-1, 5, Integer.MIN_VALUE, Integer.MAX_VALUE}) {
            Check.noIndex("count(" + what + ")", () -> rows.count(what));
        }
        counts(rows, 0, 0, 0, 32, 2);
        rows.latch(0, 0, 0);
        rows.latch(0, 0, 0);
        rows.port(1);
        rows.port(1);
        rows.port(1);
        counts(rows, 2, 0, 3, 32, 2);
        Check.code(rows, 3);
        counts(rows, 2, 0, 3, 1, 3);
        rows.make(5);
        counts(rows, 2, 5, 3, 2, 3);
        rows.latch(0, 0, 0);
        counts(rows, 3, 5, 3, 2, 3);
        rows.make(1);
        counts(rows, 3, 1, 3, 3, 3);
        Check.code(rows, 1);
        counts(rows, 3, 1, 3, 3, 1);
        rows.port(0);
        counts(rows, 3, 1, 4, 4, 1);
        Check.code(rows, 0);
        counts(rows, 3, 1, 4, 4, 0);
        Check.code(rows, 12);
        counts(rows, 3, 1, 4, 1, 12);
        for (int state = 1; state < 16; state++) {
            rows.go(state);
            Check.due("bits in " + state, rows.count(3), rows.count(4) == 12 ? 1 : 4);
        }
        rows.go(0);
        counts(rows, 3, 1, 4, 32, 2);
        noBits();
        Check.end();
    }

    private static void noBits() {
        ScanRows rows = new ScanRows(0);
        Check.code(rows, 0);
        counts(rows, 0, 0, 0, 1, 0);
        Check.code(rows, 1);
        counts(rows, 0, 0, 0, 1, 1);
        Check.code(rows, 3);
        rows.make(4);
        counts(rows, 0, 4, 0, 1, 3);
    }

    private static void counts(ScanRows rows, int... want) {
        for (int what = 0; what < want.length; what++) {
            Check.due("count(" + what + ")", rows.count(what), want[what]);
        }
    }
}
