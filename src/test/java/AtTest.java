/** Promise 4: at. */
public final class AtTest {
    public static void main(String[] args) {
        ScanRows rows = new ScanRows(0);
        Check.noIndex("at(0, 0) without chains", () -> rows.at(0, 0));
        rows.make(2);
        Check.due("at(0, 0) of an empty chain", rows.at(0, 0), ScanRows.NONE);
        Check.due("at(1, 0) of an empty chain", rows.at(1, 0), ScanRows.NONE);
        rows.latch(0, 2, 0);
        rows.latch(0, 1, 0);
        rows.latch(0, 0, 0);
        rows.make(2);
        Check.due("at(0, 0)", rows.at(0, 0), 2);
        Check.due("at(0, 1)", rows.at(0, 1), 1);
        Check.due("at(0, 2)", rows.at(0, 2), ScanRows.NONE);
        Check.due("at(1, 0)", rows.at(1, 0), 0);
        Check.due("at(1, 1)", rows.at(1, 1), ScanRows.NONE);
        Check.due("far behind", rows.at(0, Integer.MAX_VALUE), ScanRows.NONE);
        Check.due("far behind the last chain", rows.at(1, Integer.MAX_VALUE), ScanRows.NONE);
        Check.noIndex("at(0, -1)", () -> rows.at(0, -1));
        Check.noIndex("at(1, -1)", () -> rows.at(1, -1));
        Check.noIndex("at(-1, 0)", () -> rows.at(-1, 0));
        Check.noIndex("at(2, 0)", () -> rows.at(2, 0));
        Check.noIndex("at(8, 0)", () -> rows.at(8, 0));
        Check.noIndex("the greatest chain", () -> rows.at(Integer.MAX_VALUE, 0));
        Check.noIndex("the least place", () -> rows.at(0, Integer.MIN_VALUE));
        rows.make(8);
        rows.make(1);
        Check.noIndex("a chain that was", () -> rows.at(1, 0));
        Check.end();
    }
}
