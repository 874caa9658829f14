/** Promise 3: make. */
public final class MakeTest {
    public static void main(String[] args) {
        order();
        lengths();
        again();
        wrongOnes();
        Check.end();
    }

    private static void order() {
        ScanRows rows = new ScanRows(0);
        rows.latch(1, -9, 0);
        rows.latch(0, 5, 3);
        rows.latch(0, 5, -3);
        rows.latch(0, -5, 9);
        rows.latch(0, 5, 3);
        rows.latch(3, -1000, -1000);
        rows.latch(2, 0, 0);
        rows.latch(0, 5, -3);
        Check.due("make(1)", rows.make(1), 8);
        Check.chains("by clock, x, y, number", rows, "3 2 7 1 4 0 6 5");
    }

    private static void lengths() {
        for (int latches = 0; latches <= 32; latches++) {
            ScanRows rows = new ScanRows(0);
            for (int i = 0; i < latches; i++) {
                rows.latch(0, i, 0);
            }
            for (int chains = 1; chains <= 8; chains++) {
                Check.due("make(" + chains + ") of " + latches, rows.make(chains),
                        (latches + chains - 1) / chains);
                Check.due("chains", rows.count(1), chains);
                Check.chains("make(" + chains + ")", rows, dealt(latches, chains));
            }
        }
    }

    private static String dealt(int latches, int chains) {
        StringBuilder text = new StringBuilder();
        int next = 0;
        for (int chain = 0; chain < chains; chain++) {
            text.append(chain == 0 ? "" : "|");
            int length = 0;
            for (int i = chain; i < latches; i += chains) {
                length++;
            }
            for (int k = 0; k < length; k++) {
                text.append(k == 0 ? "" : " ").append(next++);
            }
        }
        return text.toString();
    }

    private static void again() {
        ScanRows rows = new ScanRows(0);
        rows.latch(0, 3, 0);
        rows.latch(0, 1, 0);
        rows.load(0, 1);
        rows.make(2);
        Check.chains("at first", rows, "1|0");
        rows.latch(0, 2, 0);
        Check.chains("with a new latch", rows, "1|0");
        Check.due("make(2)", rows.make(2), 2);
        Check.chains("made again", rows, "1 2|0");
        Check.due("its value stays", rows.value(0), 1);
        Check.due("no rule is broken", rows.rule(0, 0), ScanRows.NONE);
    }

    private static void wrongOnes() {
        ScanRows rows = new ScanRows(0);
        rows.latch(0, 0, 0);
        rows.latch(0, 1, 0);
        rows.make(2);
        for (int chains : new int[] {0, -1, 9, Integer.MIN_VALUE, Integer.MAX_VALUE}) {
            Check.noArgument("make(" + chains + ")", () -> rows.make(chains));
        }
        Check.chains("behind the wrong ones", rows, "0|1");
    }
}
