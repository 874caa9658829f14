/** Promise 1: a new object. */
public final class NewObjectTest {
    public static void main(String[] args) {
        noLatches();
        noChains();
        noCells();
        inReset();
        numbers();
        twoObjectsAreApart();
        Check.end();
    }

    private static void noLatches() {
        Check.says("No latches");
        ScanRows rows = new ScanRows(5);
        Check.due("latches", rows.count(0), 0);
        Check.due("the sort of rule 0", rows.rule(0, 0), ScanRows.NONE);
        Check.due("the latch of rule 0", rows.rule(0, 1), ScanRows.NONE);
        Check.noIndex("value(0)", () -> rows.value(0));
        Check.noIndex("load(0, 1)", () -> rows.load(0, 1));
        Check.noIndex("set(0, true)", () -> rows.set(0, true));
    }

    private static void noChains() {
        Check.says("no chains");
        ScanRows rows = new ScanRows(5);
        Check.due("chains", rows.count(1), 0);
        Check.noIndex("at(0, 0)", () -> rows.at(0, 0));
        Check.noIndex("lockUp(0, 0)", () -> rows.lockUp(0, 0));
        Check.due("travel()", rows.travel(), 0);
        Check.due("shift(-1)", rows.shift(-1), 0);
        Check.due("improve(3)", rows.improve(3), 0);
    }

    private static void noCells() {
        Check.says("no cells");
        ScanRows rows = new ScanRows(5);
        Check.due("cells", rows.count(2), 0);
        Check.noIndex("boundary(0)", () -> rows.boundary(0));
        Check.noIndex("pin(0, 1)", () -> rows.pin(0, 1));
    }

    private static void inReset() {
        Check.says("the port in RESET");
        ScanRows rows = new ScanRows(5);
        Check.due("state", rows.state(), 0);
        Check.due("code", rows.count(4), 2);
        Check.due("bits", rows.count(3), 32);
        Check.due("go(0)", rows.go(0), 0);
    }

    private static void numbers() {
        Check.says("The number is that.");
        for (int number : new int[] {0, 1, 2, -1, -2, 0x12345678, 1 << 30,
            Integer.MIN_VALUE, Integer.MIN_VALUE + 1, Integer.MAX_VALUE}) {
            ScanRows rows = new ScanRows(number);
            Check.walk(rows, "0100");
            int got = 0;
            for (int i = 0; i < 32; i++) {
                got |= rows.tick(0, 0) << i;
            }
            Check.due("the number", got, number);
        }
    }

    private static void twoObjectsAreApart() {
        Check.says("No latches, no chains, no cells; the port in RESET. The number is that.");
        ScanRows one = new ScanRows(1);
        one.latch(0, 0, 0);
        one.port(0);
        one.make(1);
        Check.code(one, 3);
        ScanRows other = new ScanRows(2);
        Check.due("the other's latches", other.count(0), 0);
        Check.due("the other's chains", other.count(1), 0);
        Check.due("the other's cells", other.count(2), 0);
        Check.due("the other's state", other.state(), 0);
        Check.due("the other's code", other.count(4), 2);
        Check.walk(other, "0100");
        Check.bits("of the other", other, "00", "01");
        Check.due("the one's code", one.count(4), 3);
        Check.due("the one's state", one.state(), 1);
    }
}
