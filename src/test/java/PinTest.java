/** Promise 14: pin. */
public final class PinTest {
    public static void main(String[] args) {
        whatIsNot0();
        outsideOrInside();
        captured();
        theLastCell();
        noSuchCell();
        refusedOnesSetNothing();
        Check.end();
    }

    private static void whatIsNot0() {
        Check.says("(what is not 0 is 1)");
        ScanRows rows = Check.withCells("01");
        for (int v : new int[] {1, 2, 3, -1, -2, 256, 1 << 16, Integer.MIN_VALUE, Integer.MAX_VALUE}) {
            for (int cell = 0; cell < 2; cell++) {
                rows.pin(cell, v);
                Check.due("behind " + v, rows.boundary(cell), 1);
                Check.due("the other one", rows.boundary(1 - cell), 0);
                rows.pin(cell, 0);
                Check.due("behind 0", rows.boundary(cell), 0);
            }
        }
    }

    private static void outsideOrInside() {
        Check.says("What is outside (of an output: inside) of a cell");
        ScanRows rows = Check.withCells("01");
        Check.code(rows, 0);
        Check.pins(rows, "11");
        Check.driven("an output drives what it holds", rows, "10");
        Check.code(rows, 1);
        Check.driven("an output drives what is inside", rows, "11");
    }

    private static void captured() {
        Check.says("of cells, what is outside (of outputs, inside)");
        ScanRows rows = Check.withCells("0101");
        rows.pin(1, 9);
        rows.pin(2, -9);
        Check.code(rows, 1);
        Check.capture(rows);
        Check.bits("as bits", rows, "0000", "0110");
    }

    private static void theLastCell() {
        Check.says("CELLS 0 .. 19 are at pins");
        ScanRows rows = Check.withCells("01".repeat(10));
        rows.pin(19, 1);
        rows.pin(0, 1);
        Check.driven("of 20", rows, "1" + "0".repeat(18) + "1");
    }

    private static void noSuchCell() {
        Check.says("IndexOutOfBoundsException: there is no such latch, chain, place or cell.");
        ScanRows none = new ScanRows(0);
        ScanRows rows = Check.withCells("01");
        Check.noIndex("pin(0, 1) without cells", () -> none.pin(0, 1));
        Check.noIndex("pin(0, 0) without cells", () -> none.pin(0, 0));
        for (int cell : new int[] {-1, 2, 3, 19, 20, Integer.MIN_VALUE, Integer.MAX_VALUE}) {
            Check.noIndex("pin(" + cell + ", 1)", () -> rows.pin(cell, 1));
            Check.noIndex("pin(" + cell + ", 0)", () -> rows.pin(cell, 0));
        }
    }

    private static void refusedOnesSetNothing() {
        Check.says("A call that throws changes nothing.");
        ScanRows rows = Check.withCells("0");
        Check.noIndex("pin(1, 1)", () -> rows.pin(1, 1));
        Check.noIndex("pin(-1, 1)", () -> rows.pin(-1, 1));
        rows.port(1);
        Check.driven("behind refused ones", rows, "00");
    }
}
