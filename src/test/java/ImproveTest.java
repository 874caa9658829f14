/** Promise 7: improve. */
public final class ImproveTest {
    public static void main(String[] args) {
        noSteps();
        fewerStepsThanHelp();
        moreStepsThanHelp();
        theLeastA();
        theLeastB();
        onlyIfLess();
        ofOneClock();
        acrossChains();
        noNeighbours();
        onlyLatchesInChains();
        valuesStayWithLatches();
        wrongOnes();
        refusedOnesExchangeNothing();
        manySteps();
        Check.end();
    }

    /** Two exchanges help here, one behind the other. */
    private static ScanRows twoHelp() {
        ScanRows rows = new ScanRows(0);
        rows.latch(0, 0, 0);
        rows.latch(0, 1, 50);
        rows.latch(0, 2, 0);
        rows.latch(0, 3, 50);
        rows.make(1);
        return rows;
    }

    private static void noSteps() {
        Check.says("Exchanges, steps at most");
        ScanRows rows = twoHelp();
        Check.due("improve(0)", rows.improve(0), 0);
        Check.chains("behind no steps", rows, "0 1 2 3");
        Check.due("travel", rows.travel(), 153);
    }

    private static void fewerStepsThanHelp() {
        Check.says("Exchanges, steps at most: how many there were");
        ScanRows rows = twoHelp();
        Check.due("improve(1)", rows.improve(1), 1);
        Check.chains("0 and 1 changed places", rows, "1 0 2 3");
        Check.due("travel", rows.travel(), 51 + 2 + 51);
        Check.due("improve(1) again", rows.improve(1), 1);
        Check.chains("0 and 3 changed places", rows, "1 3 2 0");
        Check.due("travel", rows.travel(), 2 + 51 + 2);
        Check.due("improve(1) in the end", rows.improve(1), 0);
    }

    private static void moreStepsThanHelp() {
        Check.says("Exchanges, steps at most: how many there were");
        for (int steps : new int[] {2, 3, 100, Integer.MAX_VALUE}) {
            ScanRows rows = twoHelp();
            Check.due("improve(" + steps + ")", rows.improve(steps), 2);
            Check.chains("behind it", rows, "1 3 2 0");
            Check.due("improve(" + steps + ") again", rows.improve(steps), 0);
            Check.chains("behind it", rows, "1 3 2 0");
        }
    }

    private static void theLeastA() {
        Check.says("the pair with the least a");
        ScanRows rows = new ScanRows(0);
        rows.latch(0, 9, 2);
        rows.latch(0, 2, 2);
        rows.latch(0, 7, 9);
        rows.latch(0, 2, 4);
        rows.make(1);
        Check.chains("at first", rows, "1 3 2 0");
        Check.due("travel", rows.travel(), 21);
        // 1 and 2 would shorten it by 2, 0 and 2 do by 1 alone.
        Check.due("improve(1)", rows.improve(1), 1);
        Check.chains("0 and 2 changed places", rows, "1 3 0 2");
        Check.due("travel", rows.travel(), 20);
    }

    private static void theLeastB() {
        Check.says("then the least b");
        ScanRows rows = new ScanRows(0);
        rows.latch(0, 3, 8);
        rows.latch(0, 0, 9);
        rows.latch(0, 7, 3);
        rows.latch(0, 2, 1);
        rows.make(1);
        Check.chains("at first", rows, "1 3 0 2");
        Check.due("travel", rows.travel(), 27);
        // 0 and 3 would shorten it by 8, and stand nearer to the front; 0 and 2 do by 1 alone.
        Check.due("improve(1)", rows.improve(1), 1);
        Check.chains("0 and 2 changed places", rows, "1 3 2 0");
        Check.due("travel", rows.travel(), 26);
    }

    private static void onlyIfLess() {
        Check.says("whose exchange makes the travel less");
        ScanRows two = Check.inLine(2);
        two.make(1);
        Check.due("two of one chain are as far", two.improve(5), 0);
        Check.chains("of two", two, "0 1");
        ScanRows same = new ScanRows(0);
        for (int i = 0; i < 4; i++) {
            same.latch(0, 7, 7);
        }
        same.make(2);
        Check.due("all at one place", same.improve(5), 0);
        Check.chains("at one place", same, "0 1|2 3");
        ScanRows line = Check.inLine(6);
        line.make(1);
        Check.due("in a line", line.improve(Integer.MAX_VALUE), 0);
        Check.chains("in a line", line, "0 1 2 3 4 5");
    }

    private static void ofOneClock() {
        Check.says("two latches of one clock change places");
        ScanRows rows = new ScanRows(0);
        rows.latch(0, 0, 0);
        rows.latch(1, 100, 0);
        rows.latch(2, 50, 0);
        rows.latch(3, 101, 0);
        rows.make(1);
        Check.due("of four clocks", rows.improve(9), 0);
        Check.chains("of four clocks", rows, "0 1 2 3");
        ScanRows other = new ScanRows(0);
        other.latch(0, 0, 0);
        other.latch(3, 0, 50);
        other.latch(3, 1, 0);
        other.make(1);
        Check.due("travel", other.travel(), 101);
        Check.due("of the last clock", other.improve(9), 1);
        Check.chains("of the last clock", other, "0 2 1");
    }

    private static void acrossChains() {
        Check.says("two latches of one clock change places in chains");
        ScanRows rows = new ScanRows(0);
        rows.latch(0, 0, 0);
        rows.latch(0, 1, 90);
        rows.latch(0, 2, 0);
        rows.latch(0, 3, 90);
        rows.make(2);
        Check.due("travel", rows.travel(), 182);
        Check.due("improve(9)", rows.improve(9), 1);
        Check.chains("0 and 3 changed places", rows, "3 1|2 0");
        Check.due("travel", rows.travel(), 4);
    }

    private static void noNeighbours() {
        Check.says("over all neighbours in chains");
        ScanRows rows = new ScanRows(0);
        Check.due("without chains", rows.improve(9), 0);
        rows.make(8);
        Check.due("of empty chains", rows.improve(9), 0);
        rows.latch(0, 1, 0);
        rows.latch(0, 90, 0);
        rows.latch(0, 2, 0);
        Check.due("of latches in no chain", rows.improve(9), 0);
        rows.make(3);
        Check.due("of chains of one", rows.improve(9), 0);
        Check.chains("of one", rows, "0|2|1");
    }

    private static void onlyLatchesInChains() {
        Check.says("two latches of one clock change places in chains");
        ScanRows rows = new ScanRows(0);
        rows.latch(0, 0, 0);
        rows.latch(0, 500, 0);
        rows.make(1);
        rows.latch(0, 1, 0);
        Check.due("a latch in no chain stays there", rows.improve(9), 0);
        Check.chains("with a latch in no chain", rows, "0 1");
        Check.rules("of it", rows, "1:2");
    }

    private static void valuesStayWithLatches() {
        Check.says("change places in chains");
        ScanRows rows = new ScanRows(0);
        rows.latch(0, 0, 0);
        rows.latch(0, 1, 50);
        rows.latch(0, 2, 0);
        rows.load(0, 1);
        rows.set(1, true);
        rows.make(1);
        Check.due("an exchange", rows.improve(1), 1);
        Check.chains("0 and 1 changed places", rows, "1 0 2");
        Check.values("behind it", rows, "100");
        Check.rules("behind it", rows, "0:1");
        Check.due("shift", rows.shift(0), 0);
        Check.due("shift again", rows.shift(0), 1);
    }

    private static void wrongOnes() {
        Check.says("IllegalArgumentException: steps are below 0.");
        ScanRows none = new ScanRows(0);
        ScanRows rows = twoHelp();
        for (int steps : new int[] {-1, -2, Integer.MIN_VALUE}) {
            Check.noArgument("improve(" + steps + ") without latches", () -> none.improve(steps));
            Check.noArgument("improve(" + steps + ")", () -> rows.improve(steps));
        }
    }

    private static void refusedOnesExchangeNothing() {
        Check.says("A call that throws changes nothing.");
        ScanRows rows = twoHelp();
        Check.noArgument("improve(-1)", () -> rows.improve(-1));
        Check.chains("behind a wrong one", rows, "0 1 2 3");
        Check.due("travel", rows.travel(), 153);
    }

    private static ScanRows strewn() {
        ScanRows rows = new ScanRows(0);
        for (int i = 0; i < 32; i++) {
            rows.latch(0, i * i * 677 % 2001 - 1000, i * i * i * 381 % 2001 - 1000);
        }
        rows.make(3);
        return rows;
    }

    private static void manySteps() {
        Check.says("As long as there are steps");
        ScanRows atOnce = strewn();
        int all = atOnce.improve(Integer.MAX_VALUE);
        Check.due("some exchanges", all > 5, true);
        ScanRows single = strewn();
        for (int i = 0; i < all; i++) {
            long was = single.travel();
            Check.due("step " + i, single.improve(1), 1);
            Check.due("each makes it less", single.travel() < was, true);
        }
        Check.chains("step by step", single, Check.chains(atOnce));
        Check.due("the end", single.improve(1), 0);
    }
}
