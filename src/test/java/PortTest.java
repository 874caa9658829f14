/** Promise 13: port. */
public final class PortTest {
    public static void main(String[] args) {
        ScanRows rows = new ScanRows(0);
        Check.noArgument("kind 2", () -> rows.port(2));
        Check.noArgument("kind -1", () -> rows.port(-1));
        Check.noArgument("the least kind", () -> rows.port(Integer.MIN_VALUE));
        Check.due("cells behind the wrong ones", rows.count(2), 0);
        for (int i = 0; i < 20; i++) {
            Check.due("cell " + i, rows.port(i % 2), i);
            Check.due("its pin", rows.boundary(i), 0);
        }
        Check.full("cell 20", () -> rows.port(0));
        Check.full("a wrong one when there are as many as can be", () -> rows.port(7));
        Check.due("cells", rows.count(2), 20);
        newCellsHoldNothing();
        newCellInRegister();
        Check.end();
    }

    private static void newCellsHoldNothing() {
        ScanRows rows = new ScanRows(0);
        Check.code(rows, 0);
        rows.port(1);
        rows.pin(0, 1);
        Check.due("a new output holds 0", rows.boundary(0), 0);
    }

    private static void newCellInRegister() {
        ScanRows rows = new ScanRows(0);
        rows.port(0);
        rows.pin(0, 1);
        Check.code(rows, 1);
        Check.walk(rows, "100");
        rows.port(1);
        rows.pin(1, 1);
        Check.due("the register grows", rows.count(3), 2);
        Check.bits("with a bit that is 0", rows, "001", "010");
    }
}
