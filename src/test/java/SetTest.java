/** Promise 9: set. */
public final class SetTest {
    public static void main(String[] args) {
        atFirst();
        whetherAnother();
        eachOfItsOwn();
        inAChainOrNot();
        noSuchLatch();
        refusedOnesSetNothing();
        Check.end();
    }

    private static void atFirst() {
        Check.says("A latch's set comes from logic, or not");
        ScanRows rows = Check.inLine(1);
        Check.due("set(0, false)", rows.set(0, false), false);
        Check.due("set(0, true)", rows.set(0, true), true);
    }

    private static void whetherAnother() {
        Check.says("whether that is another thing");
        ScanRows rows = Check.inLine(1);
        rows.make(1);
        Check.due("set(0, true)", rows.set(0, true), true);
        Check.due("once more", rows.set(0, true), false);
        Check.rules("behind it", rows, "0:0");
        Check.due("set(0, false)", rows.set(0, false), true);
        Check.due("once more", rows.set(0, false), false);
        Check.rules("behind it", rows, "");
    }

    private static void eachOfItsOwn() {
        Check.says("A latch's set");
        ScanRows rows = Check.inLine(32);
        rows.make(8);
        Check.due("of latch 31", rows.set(31, true), true);
        Check.due("of latch 30", rows.set(30, false), false);
        Check.due("of latch 0", rows.set(0, false), false);
        Check.rules("of latch 31", rows, "0:31");
        Check.noIndex("of latch 32", () -> rows.set(32, true));
        Check.rules("of latch 31", rows, "0:31");
    }

    private static void inAChainOrNot() {
        Check.says("A latch's set comes from logic, or not");
        ScanRows rows = Check.inLine(2);
        Check.due("before make", rows.set(1, true), true);
        rows.make(1);
        Check.due("behind make", rows.set(1, true), false);
        Check.due("and back", rows.set(1, false), true);
    }

    private static void noSuchLatch() {
        Check.says("IndexOutOfBoundsException: there is no such latch");
        ScanRows none = new ScanRows(0);
        ScanRows rows = Check.inLine(2);
        for (int latch : new int[] {-1, 2, 3, 31, 32, Integer.MIN_VALUE, Integer.MAX_VALUE}) {
            Check.noIndex("set(" + latch + ", true)", () -> rows.set(latch, true));
            Check.noIndex("set(" + latch + ", false)", () -> rows.set(latch, false));
            Check.noIndex("set(" + latch + ", true) without latches", () -> none.set(latch, true));
        }
        Check.noIndex("set(0, false) without latches", () -> none.set(0, false));
    }

    private static void refusedOnesSetNothing() {
        Check.says("A call that throws changes nothing.");
        ScanRows rows = Check.inLine(1);
        Check.noIndex("set(1, true)", () -> rows.set(1, true));
        rows.latch(0, 0, 0);
        Check.rules("of a latch that came behind it", rows, "1:0 1:1");
        Check.due("set(1, false)", rows.set(1, false), false);
    }
}
