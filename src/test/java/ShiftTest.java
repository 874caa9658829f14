/** Promise 12: shift. */
public final class ShiftTest {
    public static void main(String[] args) {
        fromTheLastOn();
        theFirstGetsABit();
        bitOfEachChain();
        bitsOfNoChain();
        ofAnEmptyChain();
        ofOnePlace();
        withoutChains();
        latchesInNoChain();
        once();
        inAnyState();
        Check.end();
    }

    private static void fromTheLastOn() {
        Check.says("each chain's places get, from the last one on, the value of the place before");
        ScanRows rows = new ScanRows(0);
        rows.latch(0, 2, 0);
        rows.latch(0, 1, 0);
        rows.latch(0, 0, 0);
        rows.make(1);
        Check.chains("the places", rows, "2 1 0");
        Check.load(rows, "001");
        Check.due("shift(0)", rows.shift(0), 0);
        Check.values("by one place", rows, "010");
        Check.due("shift(0)", rows.shift(0), 0);
        Check.values("by two places", rows, "100");
        Check.due("the out is what the last place had", rows.shift(0), 1);
        Check.values("in the end", rows, "000");
    }

    private static void theFirstGetsABit() {
        Check.says("the first one gets a bit");
        ScanRows rows = Check.inLine(3);
        rows.make(1);
        rows.shift(1);
        Check.values("behind 1", rows, "100");
        rows.shift(0);
        Check.values("behind 0", rows, "010");
        rows.shift(1);
        Check.values("behind 1", rows, "101");
        Check.due("the first bit comes out", rows.shift(0), 1);
        Check.due("the second one", rows.shift(0), 0);
        Check.due("the third one", rows.shift(0), 1);
    }

    private static void bitOfEachChain() {
        Check.says("chain c with bit c of a number: their outs, likewise");
        ScanRows rows = Check.inLine(20);
        rows.make(8);
        // Chains 0 to 3 have three places, chains 4 to 7 two.
        Check.due("1", rows.shift(0b10110101), 0);
        Check.due("2", rows.shift(0b01110011), 0);
        Check.due("3", rows.shift(0), 0b10110000);
        Check.due("4", rows.shift(0), 0b01110101);
        Check.due("5", rows.shift(0), 0b00000011);
        for (int chain = 0; chain < 8; chain++) {
            ScanRows one = Check.inLine(8);
            one.make(8);
            one.shift(1 << chain);
            Check.due("value(" + chain + ")", one.value(chain), 1);
            Check.due("out of chain " + chain, one.shift(0), 1 << chain);
        }
    }

    private static void bitsOfNoChain() {
        Check.says("chain c with bit c of a number");
        for (int bits : new int[] {8, 16, 256, 1 << 30, Integer.MIN_VALUE, -8}) {
            ScanRows rows = Check.inLine(3);
            rows.make(3);
            Check.due("shift(" + bits + ")", rows.shift(bits), 0);
            Check.values("behind " + bits, rows, "000");
            Check.due("the outs behind it", rows.shift(bits), 0);
        }
        ScanRows eight = Check.inLine(8);
        eight.make(8);
        Check.due("shift(-1)", eight.shift(-1), 0);
        Check.due("the outs are no more than eight bits", eight.shift(-256), 255);
        Check.due("and none came in", eight.shift(Integer.MIN_VALUE), 0);
    }

    private static void ofAnEmptyChain() {
        Check.says("(0 of an empty one)");
        ScanRows rows = new ScanRows(0);
        rows.make(3);
        Check.due("all are empty", rows.shift(7), 0);
        Check.due("all are empty still", rows.shift(7), 0);
        rows.latch(0, 0, 0);
        rows.make(3);
        Check.due("one is not", rows.shift(7), 0);
        Check.due("its bit, and 0 of the empty ones", rows.shift(7), 1);
        Check.due("its bit again", rows.shift(6), 1);
        Check.due("and the next one", rows.shift(6), 0);
    }

    private static void ofOnePlace() {
        Check.says("the OUT of a chain is what its last place had");
        ScanRows rows = Check.inLine(1);
        rows.make(1);
        rows.load(0, 1);
        Check.due("shift(0)", rows.shift(0), 1);
        Check.due("value(0)", rows.value(0), 0);
        Check.due("shift(1)", rows.shift(1), 0);
        Check.due("value(0)", rows.value(0), 1);
        Check.due("shift(1)", rows.shift(1), 1);
        Check.due("value(0)", rows.value(0), 1);
    }

    private static void withoutChains() {
        Check.says("All chains shift once");
        ScanRows rows = Check.inLine(2);
        Check.load(rows, "11");
        Check.due("shift(0) without chains", rows.shift(0), 0);
        Check.due("shift(-1) without chains", rows.shift(-1), 0);
        Check.values("without chains", rows, "11");
        Check.due("without latches", new ScanRows(0).shift(-1), 0);
    }

    private static void latchesInNoChain() {
        Check.says("All chains shift once");
        ScanRows rows = Check.inLine(2);
        rows.make(1);
        rows.latch(0, 2, 0);
        Check.load(rows, "011");
        Check.due("shift(0)", rows.shift(0), 1);
        Check.values("the third is in no chain", rows, "001");
        Check.due("shift(1)", rows.shift(1), 0);
        Check.values("the third is in no chain", rows, "101");
    }

    private static void once() {
        Check.says("All chains shift once");
        ScanRows rows = Check.inLine(32);
        rows.make(1);
        rows.shift(1);
        for (int i = 1; i < 32; i++) {
            Check.due("shift " + i, rows.shift(0), 0);
            Check.due("value(" + i + ")", rows.value(i), 1);
        }
        Check.due("out of 32 places", rows.shift(0), 1);
        Check.due("and gone", rows.shift(0), 0);
    }

    private static void inAnyState() {
        Check.says("All chains shift once");
        ScanRows rows = Check.inLine(2);
        rows.make(1);
        Check.code(rows, 3);
        Check.capture(rows);
        rows.shift(1);
        Check.values("while the port shifts", rows, "10");
        Check.due("the port's state", rows.state(), 4);
        Check.bits("what the chain has", rows, "000", "010");
    }
}
