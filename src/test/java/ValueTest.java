/** Promise 11: value. */
public final class ValueTest {
    public static void main(String[] args) {
        atFirst();
        whateverSetIt();
        noSuchLatch();
        Check.end();
    }

    private static void atFirst() {
        Check.says("a VALUE (0 at first)");
        ScanRows rows = Check.inLine(32);
        Check.values("at first", rows, "0".repeat(32));
        rows.make(5);
        Check.values("behind make", rows, "0".repeat(32));
    }

    private static void whateverSetIt() {
        Check.says("The value of a latch.");
        ScanRows rows = Check.inLine(3);
        Check.load(rows, "100");
        Check.values("loaded", rows, "100");
        Check.values("asked again", rows, "100");
        rows.make(1);
        rows.shift(0);
        Check.values("shifted", rows, "010");
        Check.code(rows, 3);
        Check.capture(rows);
        rows.tick(0, 1);
        Check.values("shifted by the port", rows, "101");
    }

    private static void noSuchLatch() {
        Check.says("IndexOutOfBoundsException: there is no such latch");
        ScanRows none = new ScanRows(0);
        ScanRows rows = Check.inLine(2);
        ScanRows full = Check.inLine(32);
        Check.noIndex("value(0) without latches", () -> none.value(0));
        for (int latch : new int[] {-1, 2, 3, 31, 32, Integer.MIN_VALUE, Integer.MAX_VALUE}) {
            Check.noIndex("value(" + latch + ")", () -> rows.value(latch));
        }
        for (int latch : new int[] {-1, 32, 33, Integer.MAX_VALUE}) {
            Check.noIndex("value(" + latch + ") of 32", () -> full.value(latch));
        }
        Check.due("value(31) of 32", full.value(31), 0);
    }
}
