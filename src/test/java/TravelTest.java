/** Promise 6: travel. */
public final class TravelTest {
    public static void main(String[] args) {
        ScanRows rows = new ScanRows(0);
        rows.latch(0, -3, 4);
        Check.due("without chains", rows.travel(), 0);
        rows.make(1);
        Check.due("of one latch", rows.travel(), 0);
        rows.latch(1, 2, -6);
        rows.latch(1, 5, 0);
        Check.due("new latches are no way", rows.travel(), 0);
        rows.make(1);
        Check.due("5 + 10 + 3 + 6, with clocks that differ", rows.travel(), 24);
        rows.make(2);
        Check.due("no way between chains", rows.travel(), 15);
        rows.make(3);
        Check.due("chains of one", rows.travel(), 0);
        rows.make(8);
        Check.due("with empty chains", rows.travel(), 0);
        farthest();
        Check.end();
    }

    private static void farthest() {
        ScanRows rows = new ScanRows(0);
        rows.latch(0, -1000, -1000);
        rows.latch(0, 1000, 1000);
        rows.latch(1, -1000, 1000);
        rows.make(1);
        Check.due("the farthest", rows.travel(), 6000);
    }
}
