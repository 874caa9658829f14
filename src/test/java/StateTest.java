/** Promise 16: state, and the way from each state by each mode. */
public final class StateTest {
    private static final int[][] NEXT = {
        {1, 0}, {1, 2}, {3, 9}, {4, 5}, {4, 5}, {6, 8}, {6, 7}, {4, 8}, {1, 2},
        {10, 0}, {11, 12}, {11, 12}, {13, 15}, {13, 14}, {11, 15}, {1, 2},
    };

    private static final String[] WAY = {
        "", "0", "01", "010", "0100", "0101", "01010", "010101", "01011",
        "011", "0110", "01100", "01101", "011010", "0110101", "011011",
    };

    public static void main(String[] args) {
        atFirst();
        byModes();
        byAnyCode();
        Check.end();
    }

    private static void atFirst() {
        Check.says("At first 0.");
        ScanRows rows = new ScanRows(-1);
        Check.due("state()", rows.state(), 0);
        Check.due("asked again", rows.state(), 0);
        rows.port(0);
        rows.latch(0, 0, 0);
        rows.make(1);
        rows.shift(1);
        Check.due("behind calls that do not tick", rows.state(), 0);
    }

    private static void byModes() {
        Check.says("By mode 0 / 1 they go on");
        for (int state = 0; state < 16; state++) {
            for (int mode = 0; mode <= 1; mode++) {
                for (int bit = 0; bit <= 1; bit++) {
                    ScanRows rows = new ScanRows(0);
                    Check.walk(rows, WAY[state]);
                    Check.due("by " + WAY[state], rows.state(), state);
                    Check.due("asked again", rows.state(), state);
                    rows.tick(mode, bit);
                    Check.due("from " + state + " by " + mode, rows.state(), NEXT[state][mode]);
                }
            }
        }
    }

    private static void byAnyCode() {
        Check.says("By mode 0 / 1 they go on");
        for (int code = 0; code < 16; code++) {
            ScanRows rows = Check.withCells("01");
            Check.code(rows, code);
            for (int state = 1; state < 16; state++) {
                Check.walk(rows, WAY[state]);
                Check.due("with code " + code, rows.state(), state);
                rows.go(1);
            }
        }
    }
}
