/** Promise 2: latch. */
public final class LatchTest {
    public static void main(String[] args) {
        itsNumber();
        inNoChain();
        clocks();
        noSuchClock();
        places();
        noSuchPlace();
        valueAtFirst();
        noMoreThan32();
        fullIsSaidFirst();
        refusedOnesTakeNoNumber();
        Check.end();
    }

    private static void itsNumber() {
        Check.says("A new latch, in no chain: its number.");
        ScanRows rows = new ScanRows(0);
        Check.due("the first", rows.latch(0, 5, 5), 0);
        Check.due("the next", rows.latch(3, -5, 5), 1);
        Check.due("at the same place, of the same clock", rows.latch(3, -5, 5), 2);
        rows.make(2);
        Check.due("behind make", rows.latch(1, 0, 0), 3);
        Check.due("latches", rows.count(0), 4);
    }

    private static void inNoChain() {
        Check.says("A new latch, in no chain");
        ScanRows rows = new ScanRows(0);
        rows.latch(0, 1, 0);
        Check.due("chains", rows.count(1), 0);
        Check.rules("of one latch", rows, "1:0");
        rows.make(3);
        rows.latch(0, 0, 0);
        Check.chains("behind a new latch", rows, "0||");
        Check.rules("of the new latch", rows, "1:1");
    }

    private static void clocks() {
        Check.says("have a clock (0 .. 3)");
        ScanRows rows = new ScanRows(0);
        for (int clock = 3; clock >= 0; clock--) {
            Check.due("of clock " + clock, rows.latch(clock, 0, 0), 3 - clock);
        }
        rows.make(1);
        Check.chains("by clocks", rows, "3 2 1 0");
        for (int k = 0; k < 3; k++) {
            Check.due("lockUp(0, " + k + ")", rows.lockUp(0, k), true);
        }
    }

    private static void noSuchClock() {
        Check.says("IllegalArgumentException: no such clock");
        ScanRows rows = new ScanRows(0);
        for (int clock : new int[] {-1, 4, 256, 1 << 16, Integer.MIN_VALUE, Integer.MAX_VALUE}) {
            Check.noArgument("clock " + clock, () -> rows.latch(clock, 0, 0));
        }
        Check.due("latches", rows.count(0), 0);
    }

    private static void places() {
        Check.says("a place x, y (-1000 .. 1000)");
        ScanRows rows = new ScanRows(0);
        Check.due("least x, greatest y", rows.latch(0, -1000, 1000), 0);
        Check.due("greatest x, least y", rows.latch(0, 1000, -1000), 1);
        Check.due("in the middle", rows.latch(0, 0, 0), 2);
        Check.due("least x, least y", rows.latch(0, -1000, -1000), 3);
        Check.due("greatest x, greatest y", rows.latch(0, 1000, 1000), 4);
        rows.make(1);
        Check.chains("by x and y", rows, "3 0 2 1 4");
        Check.due("travel", rows.travel(), 2000 + 2000 + 2000 + 2000);
    }

    private static void noSuchPlace() {
        Check.says("IllegalArgumentException: no such clock or place");
        ScanRows rows = new ScanRows(0);
        // The ones beyond an int are within the places if the upper half is lost.
        for (long v : new long[] {-1001, 1001, 1L << 32, -(1L << 32), (1L << 32) + 1000,
            Integer.MIN_VALUE, Integer.MAX_VALUE, Long.MIN_VALUE, Long.MAX_VALUE}) {
            Check.noArgument("x " + v, () -> rows.latch(0, v, 0));
            Check.noArgument("y " + v, () -> rows.latch(0, 0, v));
            Check.noArgument("both " + v, () -> rows.latch(3, v, v));
        }
        Check.due("latches", rows.count(0), 0);
    }

    private static void valueAtFirst() {
        Check.says("a VALUE (0 at first)");
        ScanRows rows = Check.inLine(2);
        rows.make(1);
        rows.load(0, 1);
        rows.load(1, 1);
        rows.shift(1);
        rows.latch(0, 2, 0);
        Check.values("with a new latch", rows, "110");
    }

    private static void noMoreThan32() {
        // The document's heading has the first half of this, its Terms the other.
        Check.says("LATCHES 0 .. 31");
        ScanRows rows = new ScanRows(0);
        for (int i = 0; i < 32; i++) {
            Check.due("latch " + i, rows.latch(i % 4, i, -i), i);
        }
        Check.says("UnsupportedOperationException: there are as many as there can be.");
        Check.full("latch 32", () -> rows.latch(0, 0, 0));
        Check.full("latch 32 once more", () -> rows.latch(3, -1000, 1000));
        Check.due("latches", rows.count(0), 32);
        Check.due("make(1)", rows.make(1), 32);
        Check.full("latch 32 behind make", () -> rows.latch(0, 0, 0));
        Check.due("the last one's value", rows.value(31), 0);
        Check.noIndex("value(32)", () -> rows.value(32));
    }

    private static void fullIsSaidFirst() {
        Check.says("the one named first when several would do");
        ScanRows rows = Check.inLine(32);
        Check.full("no such clock", () -> rows.latch(4, 0, 0));
        Check.full("no such x", () -> rows.latch(0, 1001, 0));
        Check.full("no such y", () -> rows.latch(0, 0, -1001));
        Check.full("nothing is right", () -> rows.latch(-1, Long.MIN_VALUE, Long.MAX_VALUE));
    }

    private static void refusedOnesTakeNoNumber() {
        Check.says("A call that throws changes nothing.");
        ScanRows rows = new ScanRows(0);
        for (int i = 0; i < 32; i++) {
            Check.noArgument("a wrong one", () -> rows.latch(4, 9, 9));
            Check.noArgument("a wrong one", () -> rows.latch(3, 1001, 9));
            Check.due("latch " + i, rows.latch(0, i, 0), i);
        }
        Check.full("latch 32", () -> rows.latch(3, 9, 9));
        rows.make(1);
        Check.due("travel", rows.travel(), 31);
        Check.due("the last place", rows.at(0, 31), 31);
    }
}
