/** Promise 2: latch. */
public final class LatchTest {
    public static void main(String[] args) {
        numbers();
        wrongOnes();
        noMoreThan32();
        Check.end();
    }

    private static void numbers() {
        ScanRows rows = new ScanRows(0);
        Check.due("the first", rows.latch(0, 1000, -1000), 0);
        Check.due("the next", rows.latch(3, -1000, 1000), 1);
        Check.due("at the same place", rows.latch(3, -1000, 1000), 2);
        Check.due("its value", rows.value(2), 0);
        rows.make(1);
        Check.due("behind make", rows.latch(1, 0, 0), 3);
        Check.chains("a new latch is in no chain", rows, "0 1 2");
        Check.due("its rule", rows.rule(0, 0), 1);
        Check.due("its rule's latch", rows.rule(0, 1), 3);
    }

    private static void wrongOnes() {
        ScanRows rows = new ScanRows(0);
        Check.noArgument("clock -1", () -> rows.latch(-1, 0, 0));
        Check.noArgument("clock 4", () -> rows.latch(4, 0, 0));
        Check.noArgument("least clock", () -> rows.latch(Integer.MIN_VALUE, 0, 0));
        Check.noArgument("x 1001", () -> rows.latch(0, 1001, 0));
        Check.noArgument("x -1001", () -> rows.latch(0, -1001, 0));
        Check.noArgument("y 1001", () -> rows.latch(0, 0, 1001));
        Check.noArgument("y -1001", () -> rows.latch(0, 0, -1001));
        Check.noArgument("x beyond int", () -> rows.latch(0, 1L << 32, 0));
        Check.noArgument("y beyond int", () -> rows.latch(0, 0, -(1L << 32)));
        Check.noArgument("least x", () -> rows.latch(0, Long.MIN_VALUE, 0));
        Check.noArgument("greatest y", () -> rows.latch(0, 0, Long.MAX_VALUE));
        Check.due("latches behind the wrong ones", rows.count(0), 0);
        Check.due("the first behind the wrong ones", rows.latch(0, 0, 0), 0);
    }

    private static void noMoreThan32() {
        ScanRows rows = new ScanRows(0);
        for (int i = 0; i < 32; i++) {
            Check.due("latch " + i, rows.latch(i % 4, i, -i), i);
        }
        Check.full("latch 32", () -> rows.latch(0, 0, 0));
        Check.full("a wrong one when there are as many as can be", () -> rows.latch(9, 5000, 0));
        Check.due("latches", rows.count(0), 32);
        Check.noIndex("value(32)", () -> rows.value(32));
    }
}
