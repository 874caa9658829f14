/** Promise 10: load. */
public final class LoadTest {
    public static void main(String[] args) {
        whatIsNot0();
        eachOfItsOwn();
        inAChain();
        noSuchLatch();
        refusedOnesLoadNothing();
        Check.end();
    }

    private static void whatIsNot0() {
        Check.says("A latch has a value (what is not 0 is 1).");
        ScanRows rows = Check.inLine(1);
        for (int v : new int[] {1, 2, 3, -1, -2, 256, 1 << 16, Integer.MIN_VALUE, Integer.MAX_VALUE}) {
            rows.load(0, v);
            Check.due("behind " + v, rows.value(0), 1);
            rows.load(0, v);
            Check.due("behind " + v + " again", rows.value(0), 1);
            rows.load(0, 0);
            Check.due("behind 0", rows.value(0), 0);
        }
    }

    private static void eachOfItsOwn() {
        Check.says("A latch has a value");
        ScanRows rows = Check.inLine(32);
        rows.load(31, 1);
        rows.load(0, 7);
        Check.values("of 32", rows, "1" + "0".repeat(30) + "1");
        rows.load(31, 0);
        Check.values("of 32", rows, "1" + "0".repeat(31));
        Check.noIndex("load(32, 1)", () -> rows.load(32, 1));
    }

    private static void inAChain() {
        Check.says("A latch has a value (what is not 0 is 1).");
        ScanRows rows = Check.inLine(2);
        rows.make(1);
        rows.load(1, -8);
        Check.due("it comes out as 1", rows.shift(0), 1);
        rows.load(1, 1);
        rows.load(1, 0);
        Check.due("it comes out as 0", rows.shift(0), 0);
    }

    private static void noSuchLatch() {
        Check.says("IndexOutOfBoundsException: there is no such latch");
        ScanRows none = new ScanRows(0);
        ScanRows rows = Check.inLine(2);
        Check.noIndex("load(0, 1) without latches", () -> none.load(0, 1));
        for (int latch : new int[] {-1, 2, 3, 31, 32, Integer.MIN_VALUE, Integer.MAX_VALUE}) {
            Check.noIndex("load(" + latch + ", 1)", () -> rows.load(latch, 1));
            Check.noIndex("load(" + latch + ", 0)", () -> rows.load(latch, 0));
        }
    }

    private static void refusedOnesLoadNothing() {
        Check.says("A call that throws changes nothing.");
        ScanRows rows = Check.inLine(2);
        Check.noIndex("load(2, 1)", () -> rows.load(2, 1));
        Check.noIndex("load(-1, 1)", () -> rows.load(-1, 1));
        rows.latch(0, 0, 0);
        Check.values("behind refused ones", rows, "000");
    }
}
