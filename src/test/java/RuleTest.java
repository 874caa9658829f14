/** Promise 8: rule. */
public final class RuleTest {
    public static void main(String[] args) {
        setFromLogic();
        inNoChain();
        byLatches();
        notSoMany();
        as64();
        below0();
        noSuchWhat();
        Check.end();
    }

    private static void setFromLogic() {
        Check.says("0, its set comes from logic");
        ScanRows rows = Check.inLine(3);
        rows.make(1);
        Check.rules("at first", rows, "");
        rows.set(2, true);
        Check.rules("of the last latch", rows, "0:2");
        rows.set(0, true);
        Check.rules("of two latches", rows, "0:0 0:2");
        rows.set(2, false);
        Check.rules("of the first latch", rows, "0:0");
        rows.make(3);
        Check.rules("made again", rows, "0:0");
    }

    private static void inNoChain() {
        Check.says("1, it is in no chain");
        ScanRows rows = Check.inLine(2);
        Check.rules("before make", rows, "1:0 1:1");
        rows.make(8);
        Check.rules("behind make", rows, "");
        rows.latch(0, 0, 0);
        Check.rules("of a new latch", rows, "1:2");
        rows.improve(9);
        Check.rules("behind exchanges", rows, "1:2");
        rows.make(1);
        Check.rules("made again", rows, "");
    }

    private static void byLatches() {
        Check.says("BROKEN RULES, by latches");
        ScanRows rows = Check.inLine(2);
        rows.set(1, true);
        Check.rules("of two in no chain", rows, "1:0 0:1 1:1");
        rows.set(0, true);
        Check.rules("of both sorts", rows, "0:0 1:0 0:1 1:1");
        rows.make(1);
        rows.latch(0, -5, 0);
        rows.latch(0, -6, 0);
        rows.set(2, true);
        Check.rules("with new latches", rows, "0:0 0:1 0:2 1:2 1:3");
        rows.make(1);
        Check.rules("in the order of latches, not of places", rows, "0:0 0:1 0:2");
    }

    private static void notSoMany() {
        Check.says("NONE if there are not so many");
        ScanRows none = new ScanRows(0);
        ScanRows rows = Check.inLine(2);
        for (int what = 0; what <= 1; what++) {
            Check.due("without latches", none.rule(0, what), ScanRows.NONE);
            Check.due("the last one", rows.rule(1, what), 1);
            for (int k : new int[] {2, 3, 63, 64, Integer.MAX_VALUE}) {
                Check.due("rule(" + k + ", " + what + ")", rows.rule(k, what), ScanRows.NONE);
            }
        }
        rows.make(1);
        Check.due("none is broken", rows.rule(0, 0), ScanRows.NONE);
        Check.due("none is broken", rows.rule(0, 1), ScanRows.NONE);
    }

    private static void as64() {
        Check.says("BROKEN RULES, by latches");
        ScanRows rows = Check.inLine(32);
        for (int latch = 0; latch < 32; latch++) {
            rows.set(latch, true);
        }
        for (int k = 0; k < 64; k++) {
            Check.due("rule(" + k + ", 0)", rows.rule(k, 0), k % 2);
            Check.due("rule(" + k + ", 1)", rows.rule(k, 1), k / 2);
        }
        Check.due("rule(64, 0)", rows.rule(64, 0), ScanRows.NONE);
        Check.due("rule(64, 1)", rows.rule(64, 1), ScanRows.NONE);
    }

    private static void below0() {
        Check.says("IndexOutOfBoundsException: k is below 0");
        ScanRows none = new ScanRows(0);
        ScanRows rows = Check.inLine(2);
        for (int k : new int[] {-1, -2, Integer.MIN_VALUE}) {
            Check.noIndex("rule(" + k + ", 0) without latches", () -> none.rule(k, 0));
            Check.noIndex("rule(" + k + ", 0)", () -> rows.rule(k, 0));
            Check.noIndex("rule(" + k + ", 1)", () -> rows.rule(k, 1));
            Check.noIndex("rule(" + k + ", 2)", () -> rows.rule(k, 2));
        }
    }

    private static void noSuchWhat() {
        Check.says("or no such what");
        ScanRows none = new ScanRows(0);
        ScanRows rows = Check.inLine(2);
        for (int what : new int[] {-1, 2, 3, Integer.MIN_VALUE, Integer.MAX_VALUE}) {
            Check.noIndex("rule(0, " + what + ") without latches", () -> none.rule(0, what));
            Check.noIndex("rule(0, " + what + ")", () -> rows.rule(0, what));
            Check.noIndex("rule(99, " + what + ")", () -> rows.rule(99, what));
        }
    }
}
