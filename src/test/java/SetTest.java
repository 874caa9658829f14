/** Promise 9: set. */
public final class SetTest {
    public static void main(String[] args) {
        ScanRows rows = new ScanRows(0);
        Check.noIndex("set(0) without latches", () -> rows.set(0, true));
        rows.latch(0, 0, 0);
        rows.latch(0, 0, 0);
        rows.make(1);
        Check.due("not from logic at first", rows.set(0, false), false);
        Check.due("from logic", rows.set(0, true), true);
        Check.due("once more", rows.set(0, true), false);
        Check.due("the other one is as it was", rows.set(1, false), false);
        Check.due("the rule", rows.rule(0, 1), 0);
        Check.due("the only one", rows.rule(1, 1), ScanRows.NONE);
        Check.due("and back", rows.set(0, false), true);
        Check.due("no rule", rows.rule(0, 0), ScanRows.NONE);
        Check.noIndex("set(2)", () -> rows.set(2, true));
        Check.noIndex("set(-1)", () -> rows.set(-1, false));
        Check.noIndex("set(32)", () -> rows.set(32, true));
        rows.latch(0, 0, 0);
        Check.due("a refused one left nothing", rows.set(2, false), false);
        Check.end();
    }
}
