/** Promise 13: port. */
public final class PortTest {
    public static void main(String[] args) {
        itsNumber();
        kinds();
        noSuchKind();
        noMoreThan20();
        fullIsSaidFirst();
        refusedOnesTakeNoNumber();
        zeroAtThePin();
        holdsZero();
        zeroInTheRegister();
        Check.end();
    }

    private static void itsNumber() {
        Check.says("A new cell at a pin: its number.");
        ScanRows rows = new ScanRows(0);
        Check.due("the first", rows.port(1), 0);
        Check.due("the next", rows.port(0), 1);
        Check.due("of the same kind", rows.port(0), 2);
        Check.due("cells", rows.count(2), 3);
    }

    private static void kinds() {
        Check.says("INPUTS (kind 0) with what is outside, OUTPUTS (1) with what is inside");
        ScanRows rows = Check.withCells("01");
        Check.code(rows, 0);
        Check.write(rows, "11");
        Check.driven("both hold 1, as an output alone drives", rows, "01");
    }

    private static void noSuchKind() {
        Check.says("IllegalArgumentException: no such kind.");
        ScanRows rows = new ScanRows(0);
        for (int kind : new int[] {-1, 2, 3, 256, 257, Integer.MIN_VALUE, Integer.MAX_VALUE}) {
            Check.noArgument("port(" + kind + ")", () -> rows.port(kind));
        }
        Check.due("cells", rows.count(2), 0);
    }

    private static void noMoreThan20() {
        Check.says("CELLS 0 .. 19");
        ScanRows rows = new ScanRows(0);
        for (int i = 0; i < 20; i++) {
            Check.due("cell " + i, rows.port(i % 2), i);
        }
        Check.says("UnsupportedOperationException: there are as many as there can be.");
        Check.full("cell 20", () -> rows.port(0));
        Check.full("cell 20 again", () -> rows.port(1));
        Check.due("cells", rows.count(2), 20);
        Check.due("the last one", rows.boundary(19), 0);
        Check.noIndex("boundary(20)", () -> rows.boundary(20));
        Check.noIndex("pin(20, 1)", () -> rows.pin(20, 1));
    }

    private static void fullIsSaidFirst() {
        Check.says("the one named first when several would do");
        ScanRows rows = Check.withCells("0".repeat(20));
        Check.full("port(2)", () -> rows.port(2));
        Check.full("port(-1)", () -> rows.port(-1));
        Check.full("the least kind", () -> rows.port(Integer.MIN_VALUE));
    }

    private static void refusedOnesTakeNoNumber() {
        Check.says("A call that throws changes nothing.");
        ScanRows rows = new ScanRows(0);
        for (int i = 0; i < 20; i++) {
            Check.noArgument("a wrong one", () -> rows.port(2));
            Check.noArgument("a wrong one", () -> rows.port(-1));
            Check.due("cell " + i, rows.port(1), i);
        }
        Check.full("cell 20", () -> rows.port(1));
        Check.due("cells", rows.count(2), 20);
    }

    private static void zeroAtThePin() {
        Check.says("all 0 at first");
        ScanRows rows = Check.withCells("01");
        Check.pins(rows, "11");
        rows.port(0);
        rows.port(1);
        Check.driven("of new cells", rows, "1100");
    }

    private static void holdsZero() {
        Check.says("Each HOLDS a bit (0 at first).");
        ScanRows rows = Check.withCells("1");
        Check.code(rows, 0);
        Check.driven("of the first", rows, "0");
        Check.write(rows, "1");
        rows.port(1);
        Check.pins(rows, "01");
        Check.driven("the new one holds 0", rows, "10");
    }

    private static void zeroInTheRegister() {
        Check.says("(A new cell's bit in the register is 0.)");
        ScanRows rows = Check.withCells("00");
        Check.pins(rows, "11");
        Check.code(rows, 1);
        Check.capture(rows);
        rows.port(1);
        rows.pin(2, 1);
        Check.due("the register grows", rows.count(3), 3);
        Check.bits("0 of the new cell at the exit", rows, "1001", "0111");
        ScanRows held = Check.withCells("1");
        Check.code(held, 0);
        Check.walk(held, "101");
        held.port(1);
        Check.pins(held, "01");
        Check.walk(held, "10");
        Check.due("state", held.state(), 1);
        Check.driven("updated with a bit that was never captured", held, "00");
    }
}
