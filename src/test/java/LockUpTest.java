/** Promise 5: lockUp. */
public final class LockUpTest {
    public static void main(String[] args) {
        ScanRows rows = new ScanRows(0);
        Check.noIndex("lockUp(0, 0) without chains", () -> rows.lockUp(0, 0));
        rows.latch(0, 0, 0);
        rows.latch(0, 1, 0);
        rows.latch(2, 0, 0);
        rows.latch(3, 0, 0);
        rows.make(1);
        Check.due("of one clock", rows.lockUp(0, 0), false);
        Check.due("from 0 to 2", rows.lockUp(0, 1), true);
        Check.due("from 2 to 3", rows.lockUp(0, 2), true);
        Check.due("behind the last one", rows.lockUp(0, 3), false);
        Check.noIndex("lockUp(0, 4)", () -> rows.lockUp(0, 4));
        Check.noIndex("lockUp(0, -1)", () -> rows.lockUp(0, -1));
        Check.noIndex("lockUp(1, 0)", () -> rows.lockUp(1, 0));
        Check.noIndex("lockUp(-1, 0)", () -> rows.lockUp(-1, 0));
        Check.noIndex("the greatest place", () -> rows.lockUp(0, Integer.MAX_VALUE));
        Check.noIndex("the least chain", () -> rows.lockUp(Integer.MIN_VALUE, 0));

        rows.make(2);
        Check.due("none between chains", rows.lockUp(0, 1), false);
        Check.due("in the second chain", rows.lockUp(1, 0), true);
        Check.noIndex("lockUp(0, 2)", () -> rows.lockUp(0, 2));
        rows.make(8);
        Check.due("of a chain of one", rows.lockUp(3, 0), false);
        Check.noIndex("of an empty chain", () -> rows.lockUp(4, 0));
        Check.end();
    }
}
