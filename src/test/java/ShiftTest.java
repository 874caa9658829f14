/** Promise 12: shift. */
public final class ShiftTest {
    public static void main(String[] args) {
        oneChain();
        manyChains();
        emptyChains();
        Check.end();
    }

    private static void oneChain() {
        ScanRows rows = new ScanRows(0);
        rows.latch(0, 2, 0);
        rows.latch(0, 1, 0);
        rows.latch(0, 0, 0);
        rows.load(0, 1);
        Check.due("without chains", rows.shift(1), 0);
        Check.due("which changes nothing", rows.value(0), 1);
        rows.make(1);
        rows.latch(0, 3, 0);
        rows.load(3, 1);
        Check.due("out of the last one", rows.shift(1), 1);
        values(rows, "0011");
        Check.due("bits of no chain are nothing", rows.shift(-2), 0);
        values(rows, "0101");
        Check.due("the third", rows.shift(0), 0);
        values(rows, "1001");
        Check.due("the fourth", rows.shift(0), 1);
        values(rows, "0001");
    }

    private static void manyChains() {
        ScanRows rows = new ScanRows(0);
        for (int i = 0; i < 20; i++) {
            rows.latch(0, i, 0);
        }
        rows.make(8);
        Check.due("1", rows.shift(0b10110101), 0);
        Check.due("2", rows.shift(0b01110011), 0);
        // Chains 0 to 3 have three places, chains 4 to 7 two.
        Check.due("3", rows.shift(0), 0b10110000);
        Check.due("4", rows.shift(0), 0b01110101);
        Check.due("5", rows.shift(0), 0b00000011);
        Check.due("6", rows.shift(-1), 0);
        Check.due("7", rows.shift(-1), 0);
        Check.due("8", rows.shift(-1), 0b11110000);
        Check.due("9", rows.shift(-1), 0b11111111);
    }

    private static void emptyChains() {
        ScanRows rows = new ScanRows(0);
        rows.make(3);
        Check.due("all are empty", rows.shift(7), 0);
        rows.latch(0, 0, 0);
        rows.make(3);
        Check.due("one is not", rows.shift(7), 0);
        Check.due("its bit", rows.shift(6), 1);
        Check.due("and the next", rows.shift(0), 0);
    }

    private static void values(ScanRows rows, String want) {
        for (int latch = 0; latch < want.length(); latch++) {
            Check.due("value(" + latch + ")", rows.value(latch), want.charAt(latch) - '0');
        }
    }
}
