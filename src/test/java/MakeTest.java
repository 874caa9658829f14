/** Promise 3: make. */
public final class MakeTest {
    public static void main(String[] args) {
        ofAllLatches();
        orderByClocks();
        orderByX();
        orderByY();
        orderByNumbers();
        oneMore();
        emptyChains();
        theLongest();
        leastAndMost();
        wrongOnes();
        orderedAnew();
        whatStays();
        refusedOnesLeaveChains();
        Check.end();
    }

    private static void ofAllLatches() {
        Check.says("Chains are made of all latches");
        ScanRows rows = Check.inLine(2);
        rows.make(2);
        Check.chains("at first", rows, "0|1");
        rows.latch(0, -1, 0);
        rows.latch(0, 7, 0);
        Check.chains("with new latches", rows, "0|1");
        Check.due("make(2)", rows.make(2), 2);
        Check.chains("made again", rows, "2 0|1 3");
        Check.rules("made again", rows, "");
        Check.due("make(1)", rows.make(1), 4);
        Check.chains("as one chain", rows, "2 0 1 3");
        Check.due("chains", rows.count(1), 1);
    }

    private static void orderByClocks() {
        Check.says("in order by clocks");
        ScanRows rows = new ScanRows(0);
        rows.latch(3, -1000, -1000);
        rows.latch(1, 0, -9);
        rows.latch(2, -9, 0);
        rows.latch(0, 1000, 1000);
        rows.make(1);
        Check.chains("whatever the places", rows, "3 1 2 0");
    }

    private static void orderByX() {
        Check.says("then by x");
        ScanRows rows = new ScanRows(0);
        rows.latch(1, 1000, -5);
        rows.latch(1, -1, -1);
        rows.latch(1, 0, -2);
        rows.latch(1, -1000, 9);
        rows.latch(1, 1, -3);
        rows.make(1);
        Check.chains("below 0 too, whatever y is", rows, "3 1 2 4 0");
    }

    private static void orderByY() {
        Check.says("by y");
        ScanRows rows = new ScanRows(0);
        rows.latch(2, -7, 1000);
        rows.latch(2, -7, 1);
        rows.latch(2, -7, -1);
        rows.latch(2, -7, 0);
        rows.latch(2, -7, -1000);
        rows.make(1);
        Check.chains("below 0 too", rows, "4 2 3 1 0");
    }

    private static void orderByNumbers() {
        Check.says("by numbers");
        ScanRows rows = new ScanRows(0);
        for (int i = 0; i < 12; i++) {
            rows.latch(i % 2, 5, 5);
        }
        rows.make(1);
        Check.chains("of equals", rows, "0 2 4 6 8 10 1 3 5 7 9 11");
        rows.make(1);
        Check.chains("of equals, made again", rows, "0 2 4 6 8 10 1 3 5 7 9 11");
    }

    private static void oneMore() {
        Check.says("if they are not a multiple of n, each of the first chains has one more");
        for (int latches = 0; latches <= 32; latches++) {
            for (int chains = 1; chains <= 8; chains++) {
                ScanRows rows = Check.inLine(latches);
                Check.due("make(" + chains + ") of " + latches, rows.make(chains),
                        (latches + chains - 1) / chains);
                Check.due("chains", rows.count(1), chains);
                Check.chains("made of " + latches, rows, dealt(latches, chains));
            }
        }
    }

    private static String dealt(int latches, int chains) {
        StringBuilder text = new StringBuilder();
        int next = 0;
        for (int chain = 0; chain < chains; chain++) {
            text.append(chain == 0 ? "" : "|");
            int length = 0;
            for (int i = chain; i < latches; i += chains) {
                length++;
            }
            for (int k = 0; k < length; k++) {
                text.append(k == 0 ? "" : " ").append(next++);
            }
        }
        return text.toString();
    }

    private static void emptyChains() {
        Check.says("(A chain may be empty.)");
        ScanRows rows = new ScanRows(0);
        Check.due("make(8) of none", rows.make(8), 0);
        Check.due("chains", rows.count(1), 8);
        Check.chains("of none", rows, "|||||||");
        Check.due("at the last one", rows.at(7, 0), ScanRows.NONE);
        rows.latch(0, 0, 0);
        rows.latch(0, 1, 0);
        Check.due("make(4) of two", rows.make(4), 1);
        Check.chains("of two", rows, "0|1||");
        Check.due("chains", rows.count(1), 4);
    }

    private static void theLongest() {
        Check.says("how many the longest one has");
        ScanRows rows = Check.inLine(32);
        int[] want = {32, 16, 11, 8, 7, 6, 5, 4};
        for (int chains = 1; chains <= 8; chains++) {
            Check.due("make(" + chains + ") of 32", rows.make(chains), want[chains - 1]);
        }
        Check.due("make(8) of one", Check.inLine(1).make(8), 1);
        Check.due("make(1) of none", new ScanRows(0).make(1), 0);
    }

    private static void leastAndMost() {
        Check.says("chains are not 1 .. 8");
        ScanRows rows = Check.inLine(9);
        Check.due("make(1)", rows.make(1), 9);
        Check.due("make(8)", rows.make(8), 2);
        Check.due("the last chain", rows.at(7, 0), 8);
        Check.noIndex("a ninth one", () -> rows.at(8, 0));
    }

    private static void wrongOnes() {
        Check.says("IllegalArgumentException: chains are not 1 .. 8.");
        ScanRows rows = Check.inLine(2);
        ScanRows none = new ScanRows(0);
        for (int chains : new int[] {0, -1, 9, 257, Integer.MIN_VALUE, Integer.MAX_VALUE}) {
            Check.noArgument("make(" + chains + ")", () -> rows.make(chains));
            Check.noArgument("make(" + chains + ") without latches", () -> none.make(chains));
        }
    }

    private static void orderedAnew() {
        Check.says("MADE into n chains they stand in order");
        ScanRows rows = new ScanRows(0);
        rows.latch(0, 0, 0);
        rows.latch(0, 1, 50);
        rows.latch(0, 2, 0);
        rows.make(1);
        Check.due("an exchange", rows.improve(9), 1);
        Check.chains("behind it", rows, "1 0 2");
        rows.make(1);
        Check.chains("made again", rows, "0 1 2");
        Check.due("an exchange once more", rows.improve(9), 1);
    }

    private static void whatStays() {
        Check.says("Chains are made of all latches");
        ScanRows rows = Check.inLine(3);
        rows.make(1);
        Check.load(rows, "101");
        rows.set(1, true);
        rows.make(2);
        Check.values("made again", rows, "101");
        Check.rules("made again", rows, "0:1");
        Check.due("the outs", rows.shift(0), 2);
    }

    private static void refusedOnesLeaveChains() {
        Check.says("A call that throws changes nothing.");
        ScanRows rows = new ScanRows(0);
        rows.latch(0, 0, 0);
        rows.latch(0, 1, 50);
        rows.latch(0, 2, 0);
        rows.make(1);
        rows.improve(1);
        rows.latch(0, 3, 3);
        Check.noArgument("make(0)", () -> rows.make(0));
        Check.noArgument("make(9)", () -> rows.make(9));
        Check.chains("behind wrong ones", rows, "1 0 2");
        Check.rules("behind wrong ones", rows, "1:3");
        ScanRows none = Check.inLine(1);
        Check.noArgument("make(9) before any", () -> none.make(9));
        Check.due("chains", none.count(1), 0);
        Check.rules("before any", none, "1:0");
    }
}
