/** Promise 18: boundary. */
public final class BoundaryTest {
    public static void main(String[] args) {
        atFirst();
        ofInputs();
        ofOutputs();
        onlyWithOutside();
        inAnyState();
        theLastCell();
        noSuchCell();
        Check.end();
    }

    private static void atFirst() {
        Check.says("all 0 at first");
        ScanRows rows = Check.withCells("01");
        Check.driven("with NUMBER", rows, "00");
        Check.code(rows, 0);
        Check.driven("with OUTSIDE", rows, "00");
    }

    private static void ofInputs() {
        Check.says("at an input (inside) what is outside");
        for (int code = 0; code < 16; code++) {
            ScanRows rows = Check.withCells("00");
            Check.code(rows, 0);
            Check.write(rows, "10");
            Check.code(rows, code);
            Check.driven("whatever it holds", rows, "00");
            Check.pins(rows, "10");
            Check.driven("with code " + code, rows, "10");
            Check.pins(rows, "01");
            Check.driven("with code " + code, rows, "01");
        }
    }

    private static void ofOutputs() {
        Check.says("WHAT IS DRIVEN at an output is what its cell holds, with code OUTSIDE");
        ScanRows rows = Check.withCells("0101");
        Check.pins(rows, "1100");
        Check.driven("before", rows, "1100");
        Check.code(rows, 0);
        Check.write(rows, "1100");
        Check.driven("held, with OUTSIDE", rows, "1001");
        Check.pins(rows, "0010");
        Check.driven("other pins, with OUTSIDE", rows, "0011");
        Check.pins(rows, "0111");
        Check.driven("other pins, with OUTSIDE", rows, "0011");
    }

    private static void onlyWithOutside() {
        Check.says("with code OUTSIDE, else what is inside");
        for (int code = 1; code < 16; code++) {
            ScanRows rows = Check.withCells("11");
            Check.code(rows, 0);
            Check.write(rows, "01");
            Check.driven("held, with OUTSIDE", rows, "10");
            Check.code(rows, code);
            Check.driven("inside, with code " + code, rows, "00");
            Check.pins(rows, "01");
            Check.driven("inside, with code " + code, rows, "01");
            Check.code(rows, 0);
            Check.driven("held still", rows, "10");
        }
    }

    private static void inAnyState() {
        Check.says("What is driven at a cell.");
        ScanRows rows = Check.withCells("1");
        Check.code(rows, 0);
        Check.write(rows, "1");
        // On the way the capture of 0 and the shift leave what is held as it is.
        for (int state : new int[] {1, 2, 3, 4, 5, 6, 7, 8}) {
            rows.go(state);
            Check.driven("held, in " + state, rows, "1");
        }
        rows.go(1);
        Check.driven("behind the update", rows, "0");
    }

    private static void theLastCell() {
        Check.says("CELLS 0 .. 19");
        ScanRows rows = Check.withCells("1".repeat(20));
        Check.code(rows, 0);
        Check.write(rows, "1" + "0".repeat(18) + "1");
        Check.driven("the first and the last hold 1", rows, "1" + "0".repeat(18) + "1");
    }

    private static void noSuchCell() {
        Check.says("IndexOutOfBoundsException: there is no such latch, chain, place or cell.");
        ScanRows none = new ScanRows(0);
        ScanRows rows = Check.withCells("0101");
        ScanRows full = Check.withCells("1".repeat(20));
        Check.noIndex("boundary(0) without cells", () -> none.boundary(0));
        for (int cell : new int[] {-1, 4, 5, 19, 20, Integer.MIN_VALUE, Integer.MAX_VALUE}) {
            Check.noIndex("boundary(" + cell + ")", () -> rows.boundary(cell));
        }
        for (int cell : new int[] {-1, 20, 21}) {
            Check.noIndex("boundary(" + cell + ") of 20", () -> full.boundary(cell));
        }
    }
}
