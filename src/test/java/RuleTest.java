/** Promise 8: rule. */
public final class RuleTest {
    public static void main(String[] args) {
        ScanRows rows = new ScanRows(0);
        due(rows, "");
        rows.latch(0, 0, 0);
        rows.latch(0, 1, 0);
        due(rows, "1:0 1:1 ");
        rows.set(1, true);
        due(rows, "1:0 0:1 1:1 ");
        rows.make(3);
        due(rows, "0:1 ");
        rows.latch(0, 2, 0);
        rows.set(2, true);
        rows.set(0, true);
        due(rows, "0:0 0:1 0:2 1:2 ");
        rows.set(2, false);
        due(rows, "0:0 0:1 1:2 ");
        rows.make(1);
        due(rows, "0:0 0:1 ");

        Check.due("far behind", rows.rule(Integer.MAX_VALUE, 1), ScanRows.NONE);
        Check.noIndex("rule(-1, 0)", () -> rows.rule(-1, 0));
        Check.noIndex("rule(0, -1)", () -> rows.rule(0, -1));
        Check.noIndex("rule(0, 2)", () -> rows.rule(0, 2));
        Check.noIndex("no rule and no what", () -> rows.rule(99, 2));
        Check.noIndex("the least rule", () -> rows.rule(Integer.MIN_VALUE, 1));
        Check.end();
    }

    private static void due(ScanRows rows, String want) {
        StringBuilder got = new StringBuilder();
        int k = 0;
        for (; rows.rule(k, 0) != ScanRows.NONE; k++) {
            got.append(rows.rule(k, 0)).append(':').append(rows.rule(k, 1)).append(' ');
        }
        Check.due("the latch behind the last rule", rows.rule(k, 1), ScanRows.NONE);
        Check.due("rules " + got + "as " + want, got.toString().equals(want), true);
    }
}
