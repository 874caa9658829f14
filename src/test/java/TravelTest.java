/** Promise 6: travel. */
public final class TravelTest {
    public static void main(String[] args) {
        inXAndInY();
        betweenClocks();
        notBetweenChains();
        ofNoNeighbours();
        newLatches();
        farthest();
        Check.end();
    }

    private static void inXAndInY() {
        Check.says("how far they are in x and in y");
        ScanRows rows = new ScanRows(0);
        rows.latch(0, -3, 4);
        rows.latch(0, 2, -6);
        rows.latch(0, 5, 0);
        rows.latch(0, 5, 0);
        rows.make(1);
        Check.due("5 + 10, 3 + 6 and 0", rows.travel(), 24);
        Check.due("asked again", rows.travel(), 24);
    }

    private static void betweenClocks() {
        Check.says("over all neighbours in chains");
        ScanRows rows = new ScanRows(0);
        rows.latch(0, 10, 0);
        rows.latch(1, 0, 7);
        rows.latch(3, 1, 0);
        rows.make(1);
        Check.due("10 + 7 and 1 + 7", rows.travel(), 25);
    }

    private static void notBetweenChains() {
        Check.says("neighbours in chains");
        ScanRows rows = new ScanRows(0);
        rows.latch(0, 0, 0);
        rows.latch(0, 1, 0);
        rows.latch(0, 100, 0);
        rows.latch(0, 110, 0);
        rows.make(2);
        Check.due("of two chains", rows.travel(), 11);
        rows.make(3);
        Check.due("of three chains", rows.travel(), 1);
        rows.make(4);
        Check.due("of four chains", rows.travel(), 0);
        rows.make(1);
        Check.due("of one chain", rows.travel(), 110);
    }

    private static void ofNoNeighbours() {
        Check.says("TRAVEL is the sum");
        ScanRows rows = new ScanRows(0);
        Check.due("of nothing", rows.travel(), 0);
        rows.make(8);
        Check.due("of empty chains", rows.travel(), 0);
        rows.latch(0, 1000, 1000);
        rows.latch(0, -1000, 1000);
        Check.due("of latches in no chain", rows.travel(), 0);
        rows.make(8);
        Check.due("of chains of one", rows.travel(), 0);
    }

    private static void newLatches() {
        Check.says("neighbours in chains");
        ScanRows rows = Check.inLine(2);
        rows.make(1);
        rows.latch(0, 500, 500);
        Check.due("with a latch in no chain", rows.travel(), 1);
        rows.make(1);
        Check.due("with it in the chain", rows.travel(), 1 + 499 + 500);
    }

    private static void farthest() {
        Check.says("a place x, y (-1000 .. 1000)");
        ScanRows rows = new ScanRows(0);
        for (int clock = 0; clock < 4; clock++) {
            int v = clock % 2 == 0 ? -1000 : 1000;
            rows.latch(clock, v, v);
        }
        rows.make(1);
        Check.due("three times as far as can be", rows.travel(), 12000);
    }
}
