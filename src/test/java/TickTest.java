/** Promise 15: tick. */
public final class TickTest {
    public static void main(String[] args) {
        wrongOnes();
        onlyShiftsAnswer();
        number();
        codes();
        bypass();
        cells();
        chains();
        registersThatGetBits();
        resetSetsTheCode();
        Check.end();
    }

    private static void wrongOnes() {
        ScanRows rows = new ScanRows(0);
        for (int v : new int[] {-1, 2, Integer.MIN_VALUE, Integer.MAX_VALUE}) {
            Check.noArgument("mode " + v, () -> rows.tick(v, 0));
            Check.noArgument("bit " + v, () -> rows.tick(0, v));
        }
        Check.due("the state behind the wrong ones", rows.state(), 0);
        Check.walk(rows, "0100");
        Check.noArgument("bit 2 in a shift", () -> rows.tick(1, 2));
        Check.due("the state is as it was", rows.state(), 4);
    }

    private static void onlyShiftsAnswer() {
        ScanRows rows = new ScanRows(-1);
        // Through all states; below each mode is what comes out, a dash if it is no shift.
        String modes = "0010000101011" + "110000010101110" + "111111";
        String outs = "-----111---1-" + "----1000---1---" + "------";
        for (int i = 0; i < modes.length(); i++) {
            int want = outs.charAt(i) == '-' ? ScanRows.NONE : outs.charAt(i) - '0';
            Check.due("tick " + i + " in " + rows.state(), rows.tick(modes.charAt(i) - '0', 1), want);
        }
        Check.due("in the end", rows.state(), 0);
    }

    private static void number() {
        ScanRows rows = new ScanRows(0xC0000005);
        Check.walk(rows, "0100");
        Check.bits("the lowest first", rows, "10110000", "10100000");
        Check.walk(rows, "0".repeat(22));
        Check.bits("the highest last", rows, "00", "11");
        Check.bits("then what came in", rows, "0000", "1011");
        Check.walk(rows, "11100");
        Check.bits("captured once more", rows, "0000", "1010");
    }

    private static void codes() {
        ScanRows rows = new ScanRows(0);
        rows.port(0);
        rows.port(0);
        rows.port(0);
        rows.latch(0, 0, 0);
        rows.latch(0, 0, 0);
        rows.make(2);
        for (int code = 0; code < 16; code++) {
            Check.code(rows, code);
            int bits = code < 2 ? 3 : code == 2 ? 32 : code == 3 ? 2 : 1;
            Check.due("bits with code " + code, rows.count(3), bits);
        }
        Check.walk(rows, "1100");
        Check.bits("1 is captured, the lowest at the exit", rows, "1011011", "1000101");
        Check.due("the code before the update", rows.count(4), 15);
        Check.walk(rows, "11");
        Check.due("on the way into the update", rows.count(4), 15);
        Check.walk(rows, "0");
        Check.due("the code behind it", rows.count(4), 0b0110);
        Check.walk(rows, "110110");
        Check.due("captured and not shifted", rows.count(4), 1);
    }

    private static void bypass() {
        for (int code : new int[] {0, 1, 3, 4, 7, 15}) {
            ScanRows rows = new ScanRows(-1);
            Check.code(rows, code);
            Check.walk(rows, "100");
            Check.bits("bypass with code " + code, rows, "110101", "011010");
            rows.tick(1, 1);
            Check.walk(rows, "1100");
            Check.bits("0 is captured", rows, "11", "01");
        }
    }

    private static void cells() {
        ScanRows rows = new ScanRows(-1);
        rows.port(0);
        rows.port(1);
        rows.port(1);
        rows.port(0);
        rows.pin(1, 1);
        rows.pin(3, 1);
        Check.code(rows, 0);
        Check.walk(rows, "10");
        rows.pin(0, 1);
        Check.walk(rows, "0");
        rows.pin(2, 1);
        Check.bits("captured, the last cell first", rows, "0110", "1011");
        Check.due("not yet held", rows.boundary(1), 0);
        Check.walk(rows, "11");
        Check.due("not before the update's tick", rows.boundary(1), 0);
        Check.walk(rows, "0");
        // The tick that left the shift moved a 0 in.
        Check.due("held by 1", rows.boundary(1), 0);
        Check.due("held by 2", rows.boundary(2), 1);
    }

    private static void chains() {
        ScanRows rows = new ScanRows(-1);
        for (int i = 0; i < 5; i++) {
            rows.latch(0, 5 - i, 0);
        }
        rows.make(2);
        rows.latch(0, 0, 0);
        rows.load(5, 1);
        rows.load(0, 1);
        rows.load(2, 1);
        Check.code(rows, 3);
        Check.due("places", rows.count(3), 5);
        Check.walk(rows, "100");
        Check.chains("the order", rows, "4 3 2|1 0");
        Check.bits("the last place first", rows, "11", "10");
        values(rows, "100111");
        Check.walk(rows, "1");
        values(rows, "001101");
        Check.walk(rows, "10100");
        Check.bits("what the chains have", rows, "00000", "00110");
        rows.load(1, 1);
        Check.bits("a latch is its bit", rows, "00", "01");
        Check.due("a latch in no chain stays", rows.value(5), 1);
    }

    private static void registersThatGetBits() {
        ScanRows rows = new ScanRows(-1);
        rows.latch(0, 0, 0);
        rows.load(0, 1);
        Check.code(rows, 3);
        Check.walk(rows, "100");
        Check.bits("bypass", rows, "10", "01");
        rows.make(2);
        Check.bits("the chain", rows, "010", "101");

        ScanRows other = new ScanRows(-1);
        Check.code(other, 1);
        Check.walk(other, "100");
        Check.bits("bypass", other, "11", "01");
        other.port(0);
        other.pin(0, 1);
        Check.bits("the cell", other, "10", "01");
    }

    private static void resetSetsTheCode() {
        ScanRows rows = new ScanRows(0);
        Check.code(rows, 9);
        Check.walk(rows, "11");
        Check.due("not yet", rows.count(4), 9);
        Check.walk(rows, "1");
        Check.due("in RESET", rows.state(), 0);
        Check.due("the code", rows.count(4), 2);
        rows.tick(1, 1);
        Check.due("RESET stays", rows.state(), 0);
    }

    private static void values(ScanRows rows, String want) {
        for (int latch = 0; latch < want.length(); latch++) {
            Check.due("value(" + latch + ")", rows.value(latch), want.charAt(latch) - '0');
        }
    }
}
