/** Promise 1: a new object. */
public final class NewObjectTest {
    public static void main(String[] args) {
        ScanRows rows = new ScanRows(5);
        Check.due("latches", rows.count(0), 0);
        Check.due("chains", rows.count(1), 0);
        Check.due("cells", rows.count(2), 0);
        Check.due("bits", rows.count(3), 32);
        Check.due("code", rows.count(4), 2);
        Check.due("state", rows.state(), 0);
        Check.due("travel", rows.travel(), 0);
        Check.due("shift", rows.shift(-1), 0);
        Check.due("improve", rows.improve(3), 0);
        Check.due("rule", rows.rule(0, 0), ScanRows.NONE);
        Check.noIndex("at(0, 0)", () -> rows.at(0, 0));
        Check.noIndex("value(0)", () -> rows.value(0));
        Check.noIndex("boundary(0)", () -> rows.boundary(0));

        number(0);
        number(1);
        number(-1);
        number(0x12345678);
        number(Integer.MIN_VALUE);
        number(Integer.MAX_VALUE);
        twoObjectsAreApart();
        Check.end();
    }

    private static void number(int number) {
        ScanRows rows = new ScanRows(number);
        Check.walk(rows, "0100");
        int got = 0;
        for (int i = 0; i < 32; i++) {
            got |= rows.tick(0, 0) << i;
        }
        Check.due("the number", got, number);
    }

    private static void twoObjectsAreApart() {
        ScanRows one = new ScanRows(1);
        ScanRows other = new ScanRows(2);
        one.latch(0, 0, 0);
        one.port(0);
        one.make(1);
        one.tick(0, 0);
        Check.due("the other's latches", other.count(0), 0);
        Check.due("the other's chains", other.count(1), 0);
        Check.due("the other's cells", other.count(2), 0);
        Check.due("the other's state", other.state(), 0);
    }
}
