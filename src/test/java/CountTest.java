/** Promise 19: count. */
public final class CountTest {
    public static void main(String[] args) {
        latches();
        chains();
        cells();
        bitsByTheCode();
        bitsOfCellsAndChains();
        oneOfNoBits();
        bitsInAnyState();
        theCode();
        noSuchWhat();
        Check.end();
    }

    private static void latches() {
        Check.says("what = 0 latches");
        ScanRows rows = new ScanRows(0);
        for (int i = 0; i < 32; i++) {
            Check.due("before latch " + i, rows.count(0), i);
            rows.latch(0, 0, 0);
        }
        Check.due("of 32", rows.count(0), 32);
        Check.full("latch 32", () -> rows.latch(0, 0, 0));
        Check.due("of 32 still", rows.count(0), 32);
    }

    private static void chains() {
        Check.says("1 chains");
        ScanRows rows = Check.inLine(2);
        Check.due("at first", rows.count(1), 0);
        for (int chains : new int[] {1, 8, 5, 2}) {
            rows.make(chains);
            Check.due("with empty ones too", rows.count(1), chains);
        }
        Check.noArgument("make(0)", () -> rows.make(0));
        Check.due("behind a refused one", rows.count(1), 2);
        rows.latch(0, 0, 0);
        Check.due("behind a new latch", rows.count(1), 2);
    }

    private static void cells() {
        Check.says("2 cells");
        ScanRows rows = new ScanRows(0);
        for (int i = 0; i < 20; i++) {
            Check.due("before cell " + i, rows.count(2), i);
            rows.port(i % 2);
        }
        Check.due("of 20", rows.count(2), 20);
        Check.full("cell 20", () -> rows.port(0));
        Check.due("of 20 still", rows.count(2), 20);
    }

    private static void bitsByTheCode() {
        Check.says("3 bits of the data's register by the code");
        ScanRows rows = Check.withCells("000");
        rows.latch(0, 0, 0);
        rows.latch(0, 0, 0);
        rows.make(3);
        int[] want = {3, 3, 32, 2, 1, 1, 1, 1, 1, 1, 1, 1, 1, 1, 1, 1};
        Check.due("at first", rows.count(3), 32);
        for (int code = 0; code < 16; code++) {
            Check.code(rows, code);
            Check.due("with code " + code, rows.count(3), want[code]);
        }
        rows.go(0);
        Check.due("in RESET", rows.count(3), 32);
    }

    private static void bitsOfCellsAndChains() {
        Check.says("3 bits of the data's register by the code");
        ScanRows rows = new ScanRows(0);
        Check.code(rows, 1);
        for (int i = 1; i <= 20; i++) {
            rows.port(0);
            Check.due("of cells", rows.count(3), i);
        }
        Check.code(rows, 3);
        for (int i = 1; i <= 32; i++) {
            rows.latch(0, 0, 0);
            Check.due("the last one is in no chain", rows.count(3), Math.max(1, i - 1));
            rows.make(4);
            Check.due("of places", rows.count(3), i);
        }
    }

    private static void oneOfNoBits() {
        Check.says("(and where that has no bits, asked at each tick) BYPASS: one bit");
        ScanRows rows = new ScanRows(0);
        for (int code : new int[] {0, 1, 3}) {
            Check.code(rows, code);
            Check.due("with code " + code, rows.count(3), 1);
        }
        rows.make(4);
        Check.due("of empty chains", rows.count(3), 1);
        rows.latch(0, 0, 0);
        rows.latch(0, 0, 0);
        Check.due("of latches in no chain", rows.count(3), 1);
        rows.make(4);
        Check.due("of two places", rows.count(3), 2);
    }

    private static void bitsInAnyState() {
        Check.says("(in any state)");
        ScanRows rows = Check.withCells("0101");
        Check.code(rows, 1);
        for (int state = 1; state < 16; state++) {
            rows.go(state);
            Check.due("in " + state, rows.count(3), 4);
        }
        Check.due("the code", rows.count(4), 1);
    }

    private static void theCode() {
        Check.says("4 the code");
        ScanRows rows = new ScanRows(0);
        Check.due("at first", rows.count(4), 2);
        for (int code = 15; code >= 0; code--) {
            Check.code(rows, code);
            Check.due("the code", rows.count(4), code);
        }
        rows.go(0);
        Check.due("in RESET", rows.count(4), 2);
    }

    private static void noSuchWhat() {
        Check.says("IndexOutOfBoundsException: there is no such what.");
        ScanRows rows = new ScanRows(0);
        for (int what : new int[] {-1, 5, 6, 256, Integer.MIN_VALUE, Integer.MAX_VALUE}) {
            Check.noIndex("count(" + what + ")", () -> rows.count(what));
        }
    }
}
