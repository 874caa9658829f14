/** Promise 14: pin. */
public final class PinTest {
    public static void main(String[] args) {
        ScanRows rows = new ScanRows(0);
        Check.noIndex("pin(0) without cells", () -> rows.pin(0, 1));
        rows.port(0);
        rows.port(1);
        for (int v : new int[] {1, 2, -1, Integer.MIN_VALUE, Integer.MAX_VALUE}) {
            for (int cell = 0; cell < 2; cell++) {
                rows.pin(cell, v);
                Check.due("behind " + v, rows.boundary(cell), 1);
                Check.due("the other one", rows.boundary(1 - cell), 0);
                rows.pin(cell, 0);
                Check.due("behind 0", rows.boundary(cell), 0);
            }
        }
        for (int cell : new int[] {-1, 2, 19, 20, Integer.MIN_VALUE, Integer.MAX_VALUE}) {
            Check.noIndex("pin(" + cell + ")", () -> rows.pin(cell, 1));
        }
        rows.port(0);
        Check.due("a refused one left nothing", rows.boundary(2), 0);

        rows.pin(1, 1);
        Check.code(rows, 1);
        Check.walk(rows, "100");
        Check.bits("what is at the pins", rows, "000", "010");
        Check.end();
    }
}
