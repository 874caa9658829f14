/** Promise 7: improve. */
public final class ImproveTest {
    public static void main(String[] args) {
        leastPairFirst();
        clocksAreKept();
        acrossChains();
        onlyLatchesInChains();
        valuesStayWithLatches();
        wrongOnes();
        asManyAsNeeded();
        Check.end();
    }

    /** Two exchanges would help at first; the one with the least latches comes first. */
    private static void leastPairFirst() {
        ScanRows rows = new ScanRows(0);
        rows.latch(0, 0, 0);
        rows.latch(0, 1, 50);
        rows.latch(0, 2, 0);
        rows.latch(0, 3, 50);
        rows.make(1);
        Check.due("at first", rows.travel(), 153);
        Check.due("no steps", rows.improve(0), 0);
        Check.chains("no steps", rows, "0 1 2 3");
        Check.due("one step", rows.improve(1), 1);
        Check.chains("0 and 1 change places", rows, "1 0 2 3");
        Check.due("behind one step", rows.travel(), 51 + 2 + 51);
        Check.due("the others", rows.improve(100), 1);
        Check.chains("0 and 3 change places", rows, "1 3 2 0");
        Check.due("in the end", rows.travel(), 2 + 51 + 2);
        Check.due("nothing is left", rows.improve(100), 0);
    }

    private static void clocksAreKept() {
        ScanRows rows = new ScanRows(0);
        rows.latch(0, 0, 0);
        rows.latch(1, 100, 0);
        rows.latch(2, 50, 0);
        rows.make(1);
        Check.due("other clocks do not change places", rows.improve(9), 0);
        Check.chains("of three clocks", rows, "0 1 2");
    }

    private static void acrossChains() {
        ScanRows rows = new ScanRows(0);
        rows.latch(0, 0, 0);
        rows.latch(0, 1, 90);
        rows.latch(0, 2, 0);
        rows.latch(0, 3, 90);
        rows.make(2);
        Check.due("at first", rows.travel(), 182);
        Check.due("across", rows.improve(9), 1);
        Check.chains("0 and 3 change places", rows, "3 1|2 0");
        Check.due("behind it", rows.travel(), 4);
    }

    private static void onlyLatchesInChains() {
        ScanRows rows = new ScanRows(0);
        rows.latch(0, 0, 0);
        rows.latch(0, 500, 0);
        rows.make(1);
        rows.latch(0, 1, 0);
        Check.due("a latch in no chain stays there", rows.improve(9), 0);
        Check.chains("with a latch outside", rows, "0 1");
        Check.due("its rule", rows.rule(0, 1), 2);
    }

    private static void valuesStayWithLatches() {
        ScanRows rows = new ScanRows(0);
        rows.latch(0, 0, 0);
        rows.latch(0, 1, 50);
        rows.latch(0, 2, 0);
        rows.load(0, 1);
        rows.make(1);
        Check.due("an exchange", rows.improve(1), 1);
        Check.chains("0 and 1 change places", rows, "1 0 2");
        Check.due("value(0)", rows.value(0), 1);
        Check.due("value(1)", rows.value(1), 0);
        Check.due("shift", rows.shift(0), 0);
        Check.due("behind it", rows.shift(0), 1);
    }

    private static void wrongOnes() {
        ScanRows rows = new ScanRows(0);
        Check.noArgument("improve(-1)", () -> rows.improve(-1));
        Check.noArgument("the least", () -> rows.improve(Integer.MIN_VALUE));
    }

    private static void asManyAsNeeded() {
        ScanRows rows = new ScanRows(0);
        for (int i = 0; i < 32; i++) {
            rows.latch(0, i * i * 677 % 2001 - 1000, i * i * i * 381 % 2001 - 1000);
        }
        rows.make(3);
        long before = rows.travel();
        int all = rows.improve(Integer.MAX_VALUE);
        Check.due("some exchanges", all > 5, true);
        Check.due("less travel", rows.travel() < before, true);
        String end = Check.chains(rows);
        rows.make(3);
        for (int i = 0; i < all; i++) {
            long was = rows.travel();
            Check.due("step by step", rows.improve(1), 1);
            Check.due("each makes it less", rows.travel() < was, true);
        }
        Check.chains("step by step as at once", rows, end);
        Check.due("the end", rows.improve(1), 0);
    }
}
