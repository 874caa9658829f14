/** Promise 18: boundary. */
public final class BoundaryTest {
    public static void main(String[] args) {
        ScanRows rows = new ScanRows(0);
        Check.noIndex("boundary(0) without cells", () -> rows.boundary(0));
        rows.port(0);
        rows.port(1);
        rows.port(0);
        rows.port(1);
        for (int cell : new int[] {-1, 4, 19, 20, Integer.MIN_VALUE, Integer.MAX_VALUE}) {
            Check.noIndex("boundary(" + cell + ")", () -> rows.boundary(cell));
        }
        rows.pin(0, 1);
        rows.pin(1, 1);
        driven(rows, "1100");

        Check.code(rows, 1);
        Check.walk(rows, "100");
        rows.tick(0, 1);
        rows.tick(0, 1);
        rows.tick(0, 0);
        rows.tick(1, 0);
        Check.walk(rows, "1");
        driven(rows, "1100");
        Check.walk(rows, "0");
        driven(rows, "1100");
        Check.code(rows, 0);
        driven(rows, "1001");
        rows.pin(0, 0);
        rows.pin(1, 0);
        rows.pin(2, 1);
        driven(rows, "0011");
        rows.pin(3, 1);
        Check.code(rows, 4);
        driven(rows, "0011");
        rows.pin(3, 0);
        driven(rows, "0010");
        rows.go(0);
        driven(rows, "0010");
        Check.code(rows, 0);
        driven(rows, "0011");
        onlyOutsideAndSampleUpdate();
        Check.end();
    }

    private static void onlyOutsideAndSampleUpdate() {
        for (int code = 2; code < 16; code++) {
            ScanRows rows = new ScanRows(-1);
            rows.port(1);
            rows.latch(0, 0, 0);
            rows.make(1);
            rows.pin(0, 1);
            Check.code(rows, code);
            Check.walk(rows, "100");
            rows.tick(0, 1);
            rows.tick(1, 1);
            Check.walk(rows, "10");
            Check.code(rows, 0);
            Check.due("held, shifted with code " + code, rows.boundary(0), 0);
        }
    }

    private static void driven(ScanRows rows, String want) {
        for (int cell = 0; cell < want.length(); cell++) {
            Check.due("boundary(" + cell + ")", rows.boundary(cell), want.charAt(cell) - '0');
        }
    }
}
