/** Promise 15: what ticks do with the registers of the data and of the code. */
public final class RegisterTest {
    public static void main(String[] args) {
        number();
        numberWrapsAround();
        numberCapturedAgain();
        bypass();
        withoutBits();
        askedAtEachTick();
        cells();
        twentyCells();
        captureOverwrites();
        updateOfCells();
        updateOfOthers();
        chains();
        chainsWithEmptyOnes();
        chainsHaveWhatTheyHave();
        newLatchesAndChains();
        pauses();
        captureCode();
        shiftCode();
        updateCode();
        Check.end();
    }

    private static ScanRows shiftingNumber(int number) {
        ScanRows rows = new ScanRows(number);
        Check.walk(rows, "0100");
        return rows;
    }

    private static void number() {
        Check.says("of the number, its bits, the lowest one at the exit");
        ScanRows rows = shiftingNumber(0xC0000005);
        Check.bits("the lowest ones", rows, "0000", "1010");
        Check.bits("the middle", rows, "0".repeat(26), "0".repeat(26));
        Check.bits("the highest ones", rows, "00", "11");
        Check.bits("behind all 32", rows, "0000", "0000");
    }

    private static void numberWrapsAround() {
        Check.says("2 NUMBER: 32 bits");
        ScanRows rows = shiftingNumber(0);
        String in = "10110011100011110000111110000011";
        Check.bits("of the number", rows, in, "0".repeat(32));
        Check.bits("what came in", rows, "1".repeat(32), in);
        Check.bits("all 1", rows, "0".repeat(33), "1".repeat(32) + "0");
    }

    private static void numberCapturedAgain() {
        Check.says("of the number, its bits");
        ScanRows rows = shiftingNumber(5);
        Check.bits("at first", rows, "1111", "1010");
        Check.walk(rows, "11100");
        Check.due("in SHIFT DATA", rows.state(), 4);
        Check.bits("captured again", rows, "0".repeat(32), "101" + "0".repeat(29));
    }

    private static void bypass() {
        Check.says("BYPASS: one bit");
        for (int code = 4; code < 16; code++) {
            ScanRows rows = Check.withCells("0");
            rows.latch(0, 0, 0);
            rows.make(1);
            rows.pin(0, 1);
            rows.load(0, 1);
            Check.code(rows, code);
            Check.due("bits with code " + code, rows.count(3), 1);
            Check.capture(rows);
            Check.bits("with code " + code, rows, "110101", "011010");
            rows.tick(1, 1);
            Check.says("of bypass 0");
            Check.walk(rows, "1100");
            Check.bits("captured again", rows, "11", "01");
            Check.due("the latch is as it was", rows.value(0), 1);
        }
    }

    private static void withoutBits() {
        Check.says("(and where that has no bits, asked at each tick) BYPASS");
        for (int code : new int[] {0, 1, 3}) {
            ScanRows rows = Check.inLine(2);
            Check.load(rows, "11");
            Check.code(rows, code);
            Check.due("bits with code " + code, rows.count(3), 1);
            Check.capture(rows);
            Check.bits("with code " + code, rows, "110101", "011010");
            rows.tick(1, 1);
            Check.walk(rows, "1100");
            Check.bits("captured again", rows, "11", "01");
            Check.values("in no chain", rows, "11");
        }
        ScanRows empty = new ScanRows(-1);
        empty.make(8);
        Check.code(empty, 3);
        Check.due("bits of empty chains", empty.count(3), 1);
        Check.capture(empty);
        Check.bits("of empty chains", empty, "1011", "0101");
    }

    private static void askedAtEachTick() {
        Check.says("where that has no bits, asked at each tick");
        ScanRows chains = Check.inLine(1);
        chains.load(0, 1);
        Check.code(chains, 3);
        Check.capture(chains);
        Check.bits("bypass", chains, "100", "010");
        chains.make(2);
        Check.due("bits", chains.count(3), 1);
        Check.bits("the chain, not the bypass", chains, "010", "101");

        ScanRows cells = new ScanRows(0);
        Check.code(cells, 0);
        Check.walk(cells, "10");
        cells.port(1);
        cells.pin(0, 1);
        Check.walk(cells, "0");
        Check.bits("a cell that came before the capture's tick", cells, "00", "10");

        ScanRows later = new ScanRows(0);
        Check.code(later, 1);
        Check.capture(later);
        Check.bits("bypass", later, "11", "01");
        later.port(1);
        later.pin(0, 1);
        Check.bits("a cell that came behind it", later, "10", "01");
    }

    private static void cells() {
        Check.says("0 OUTSIDE and 1 SAMPLE: the REGISTER is the row of cells");
        for (int code = 0; code <= 1; code++) {
            ScanRows rows = Check.withCells("0110");
            Check.pins(rows, "0101");
            Check.code(rows, code);
            Check.walk(rows, "10");
            rows.pin(0, 1);
            Check.walk(rows, "0");
            rows.pin(2, 1);
            Check.says("A register has its first bit at the entrance, its last one at the exit.");
            Check.bits("as the capture's tick had it", rows, "0111001", "1011011");
        }
    }

    private static void twentyCells() {
        Check.says("the REGISTER is the row of cells");
        ScanRows rows = Check.withCells("01".repeat(10));
        Check.pins(rows, "10000000000000000010");
        Check.code(rows, 1);
        Check.due("bits", rows.count(3), 20);
        Check.capture(rows);
        Check.bits("the last cell first", rows, "1".repeat(20), "01000000000000000001");
        Check.bits("then what came in", rows, "00", "11");
    }

    private static void captureOverwrites() {
        Check.says("of cells, what is outside (of outputs, inside)");
        ScanRows rows = Check.withCells("01");
        Check.code(rows, 0);
        Check.write(rows, "11");
        Check.driven("the output holds 1", rows, "01");
        Check.capture(rows);
        Check.bits("inside is 0, not what it holds", rows, "00", "00");
    }

    private static void updateOfCells() {
        Check.says("UPDATE DATA, with OUTSIDE or SAMPLE: cells hold their register's bits");
        for (int code = 0; code <= 1; code++) {
            ScanRows rows = Check.withCells("111");
            Check.code(rows, code);
            Check.write(rows, "110");
            Check.code(rows, 0);
            Check.driven("shifted with code " + code, rows, "011");
            Check.pins(rows, "100");
            Check.code(rows, code);
            // Through CAPTURE, EXIT 1 and UPDATE: what was captured is held.
            Check.walk(rows, "10110");
            Check.code(rows, 0);
            Check.driven("captured with code " + code, rows, "100");
        }
        ScanRows late = Check.withCells("1");
        Check.code(late, 0);
        Check.capture(late);
        late.tick(1, 1);
        Check.driven("in EXIT 1", late, "0");
        Check.walk(late, "1");
        Check.driven("before the update's tick", late, "0");
        Check.walk(late, "1");
        Check.driven("behind it", late, "1");
        Check.due("by mode 1", late.state(), 2);
    }

    private static void updateOfOthers() {
        Check.says("UPDATE DATA, with OUTSIDE or SAMPLE");
        for (int code = 2; code < 16; code++) {
            ScanRows rows = Check.withCells("1");
            rows.latch(0, 0, 0);
            rows.make(1);
            rows.pin(0, 1);
            Check.code(rows, 1);
            Check.capture(rows);
            rows.go(0);
            Check.code(rows, 0);
            Check.write(rows, "0");
            Check.code(rows, code);
            Check.write(rows, "1");
            Check.code(rows, 0);
            Check.driven("as before code " + code, rows, "0");
        }
    }

    private static void chains() {
        Check.says("3 CHAINS: all places of all chains, one behind the other");
        ScanRows rows = new ScanRows(-1);
        for (int i = 0; i < 5; i++) {
            rows.latch(0, 5 - i, 0);
        }
        rows.make(2);
        rows.load(0, 1);
        rows.load(2, 1);
        Check.chains("the places", rows, "4 3 2|1 0");
        Check.code(rows, 3);
        Check.due("bits", rows.count(3), 5);
        Check.capture(rows);
        Check.says("A register has its first bit at the entrance, its last one at the exit.");
        Check.bits("the last place first", rows, "11", "10");
        Check.values("moved by two, over the end of the first chain", rows, "10011");
        Check.walk(rows, "1");
        Check.values("moved by three", rows, "00110");
    }

    private static void chainsWithEmptyOnes() {
        Check.says("all places of all chains, one behind the other");
        ScanRows rows = Check.inLine(3);
        rows.make(8);
        Check.load(rows, "110");
        Check.code(rows, 3);
        Check.due("bits", rows.count(3), 3);
        Check.capture(rows);
        Check.bits("of three chains of one and five empty ones", rows, "01001", "01101");
        ScanRows full = Check.inLine(32);
        full.make(7);
        full.load(0, 1);
        Check.code(full, 3);
        Check.due("bits of all latches", full.count(3), 32);
        Check.capture(full);
        Check.bits("the first place last", full, "0".repeat(32), "0".repeat(31) + "1");
    }

    private static void chainsHaveWhatTheyHave() {
        Check.says("of chains, what they have");
        ScanRows rows = Check.inLine(3);
        rows.make(1);
        Check.load(rows, "011");
        Check.code(rows, 3);
        Check.values("before the capture", rows, "011");
        Check.capture(rows);
        Check.values("behind the capture", rows, "011");
        rows.load(2, 0);
        Check.bits("a latch is its bit", rows, "00", "01");
        Check.values("moved by two", rows, "000");
        Check.bits("1 comes in", rows, "1", "0");
        Check.walk(rows, "1110");
        Check.due("CAPTURE DATA again", rows.state(), 3);
        Check.values("UPDATE DATA changed nothing", rows, "010");
    }

    private static void newLatchesAndChains() {
        Check.says("all places of all chains");
        ScanRows rows = Check.inLine(2);
        rows.make(1);
        Check.code(rows, 3);
        Check.capture(rows);
        rows.latch(0, -1, 0);
        rows.load(2, 1);
        Check.due("bits with a latch in no chain", rows.count(3), 2);
        Check.bits("of two places", rows, "110", "001");
        Check.values("the third one stays", rows, "011");
        rows.make(1);
        Check.due("bits, made again", rows.count(3), 3);
        Check.chains("made again", rows, "2 0 1");
        Check.bits("of three places", rows, "000", "101");
    }

    private static void pauses() {
        Check.says("6 to 6 / 7; 7 to 4 / 8");
        ScanRows rows = shiftingNumber(0b110101);
        Check.bits("before the pause", rows, "11", "10");
        rows.tick(1, 1);
        Check.walk(rows, "0000010");
        Check.due("in SHIFT DATA", rows.state(), 4);
        Check.bits("behind the pause", rows, "000", "011");
        ScanRows code = new ScanRows(0);
        Check.walk(code, "01100");
        Check.bits("of the code", code, "11", "10");
        code.tick(1, 1);
        Check.walk(code, "0000010");
        Check.due("in SHIFT CODE", code.state(), 11);
        Check.bits("behind the pause", code, "0000", "0111");
    }

    private static void captureCode() {
        Check.says("CAPTURE CODE: 1");
        for (int before : new int[] {0, 3, 15}) {
            ScanRows rows = new ScanRows(0);
            Check.code(rows, before);
            Check.walk(rows, "1101");
            Check.due("in EXIT 1 CODE", rows.state(), 12);
            Check.due("the code as it was", rows.count(4), before);
            Check.walk(rows, "10");
            Check.due("captured and not shifted", rows.count(4), 1);
        }
    }

    private static void shiftCode() {
        Check.says("SHIFT CODE: the exit is the lowest bit, the entrance the highest one");
        ScanRows rows = new ScanRows(0);
        Check.walk(rows, "01100");
        Check.bits("1 is captured, four bits", rows, "1011011", "1000101");
        Check.due("the code as it was", rows.count(4), 2);
        Check.walk(rows, "11");
        Check.due("the code before the update's tick", rows.count(4), 2);
        Check.walk(rows, "0");
        Check.due("the last four that came in", rows.count(4), 0b0110);
        ScanRows once = new ScanRows(0);
        Check.walk(once, "01100");
        once.tick(1, 1);
        Check.walk(once, "10");
        Check.due("one bit came in", once.count(4), 0b1000);
        ScanRows twice = new ScanRows(0);
        Check.walk(twice, "01100");
        twice.tick(0, 0);
        twice.tick(1, 1);
        Check.walk(twice, "10");
        Check.due("two bits came in", twice.count(4), 0b1000);
    }

    private static void updateCode() {
        Check.says("UPDATE CODE: what was shifted is the code");
        ScanRows rows = Check.withCells("000");
        rows.latch(0, 0, 0);
        rows.latch(0, 0, 0);
        rows.make(2);
        for (int code = 0; code < 16; code++) {
            Check.code(rows, code);
            int bits = code < 2 ? 3 : code == 2 ? 32 : code == 3 ? 2 : 1;
            Check.due("bits with code " + code, rows.count(3), bits);
        }
        ScanRows by1 = new ScanRows(0);
        Check.walk(by1, "01100");
        Check.bits("of the code", by1, "101", "100");
        by1.tick(1, 1);
        Check.walk(by1, "1");
        Check.due("in UPDATE CODE", by1.state(), 15);
        Check.walk(by1, "1");
        Check.due("by mode 1", by1.state(), 2);
        Check.due("the code", by1.count(4), 13);
    }
}
