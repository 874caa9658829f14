/** Promise 15: tick, what it answers and what it refuses; RegisterTest has what it does. */
public final class TickTest {
    /** Ways from RESET to each state. */
    private static final String[] WAY = {
        "", "0", "01", "010", "0100", "0101", "01010", "010101", "01011",
        "011", "0110", "01100", "01101", "011010", "0110101", "011011",
    };

    public static void main(String[] args) {
        onlyShiftsAnswer();
        throughAllStates();
        wrongOnes();
        refusedOnesDoNothing();
        firstThenOn();
        resetReached();
        resetAgain();
        fiveTimesMode1();
        Check.end();
    }

    private static void onlyShiftsAnswer() {
        Check.says("what came out; NONE if it was no shift");
        for (int state = 0; state < 16; state++) {
            for (int mode = 0; mode <= 1; mode++) {
                ScanRows rows = new ScanRows(-1);
                Check.walk(rows, WAY[state]);
                int want = state == 4 || state == 11 ? 1 : ScanRows.NONE;
                Check.due("mode " + mode + " in " + state, rows.tick(mode, 0), want);
            }
        }
    }

    private static void throughAllStates() {
        Check.says("A tick: what came out; NONE if it was no shift.");
        ScanRows rows = new ScanRows(-1);
        // Below each mode is what comes out, a dash if it is no shift.
        String modes = "0010000101011" + "110000010101110" + "111111";
        String outs = "-----111---1-" + "----1000---1---" + "------";
        for (int i = 0; i < modes.length(); i++) {
            int want = outs.charAt(i) == '-' ? ScanRows.NONE : outs.charAt(i) - '0';
            Check.due("tick " + i + " in " + rows.state(), rows.tick(modes.charAt(i) - '0', 1), want);
        }
        Check.due("in the end", rows.state(), 0);
    }

    private static void wrongOnes() {
        Check.says("IllegalArgumentException: mode or bit is not 0 or 1.");
        for (int state = 0; state < 16; state++) {
            ScanRows rows = new ScanRows(0);
            Check.walk(rows, WAY[state]);
            for (int v : new int[] {-1, 2, 3, 256, Integer.MIN_VALUE, Integer.MAX_VALUE}) {
                Check.noArgument("tick(" + v + ", 0) in " + state, () -> rows.tick(v, 0));
                Check.noArgument("tick(" + v + ", 1) in " + state, () -> rows.tick(v, 1));
                Check.noArgument("tick(0, " + v + ") in " + state, () -> rows.tick(0, v));
                Check.noArgument("tick(1, " + v + ") in " + state, () -> rows.tick(1, v));
                Check.noArgument("tick(" + v + ", " + v + ") in " + state, () -> rows.tick(v, v));
            }
            Check.due("the state is as it was", rows.state(), state);
        }
    }

    private static void refuse(ScanRows rows) {
        Check.noArgument("tick(2, 1)", () -> rows.tick(2, 1));
        Check.noArgument("tick(1, 2)", () -> rows.tick(1, 2));
        Check.noArgument("tick(0, -1)", () -> rows.tick(0, -1));
    }

    /** In each state that does something, refused ticks do not do it. */
    private static void refusedOnesDoNothing() {
        Check.says("A call that throws changes nothing.");
        ScanRows rows = Check.withCells("1");
        rows.port(1);
        Check.pins(rows, "11");
        Check.code(rows, 0);
        Check.walk(rows, "10");
        refuse(rows);
        Check.pins(rows, "10");
        Check.walk(rows, "0");
        refuse(rows);
        Check.bits("captured by the tick behind refused ones, and moved by two", rows, "11", "01");
        Check.walk(rows, "11");
        Check.due("in UPDATE DATA", rows.state(), 8);
        refuse(rows);
        Check.driven("not held yet", rows, "00");
        Check.walk(rows, "0");
        Check.driven("held", rows, "01");
        Check.walk(rows, "1100");
        refuse(rows);
        Check.bits("1 was captured as the code", rows, "1010", "1000");
        refuse(rows);
        Check.walk(rows, "11");
        Check.due("in UPDATE CODE", rows.state(), 15);
        refuse(rows);
        Check.due("the code is not set yet", rows.count(4), 0);
        Check.walk(rows, "0");
        Check.due("the code is set", rows.count(4), 0b0010);
    }

    private static void firstThenOn() {
        Check.says("does what the state is, then goes on by the mode");
        ScanRows rows = new ScanRows(0b1011);
        Check.walk(rows, "010");
        Check.due("CAPTURE DATA does not shift", rows.tick(0, 0), ScanRows.NONE);
        Check.due("the first shift", rows.tick(0, 0), 1);
        Check.due("the tick that leaves shifts too", rows.tick(1, 0), 1);
        Check.due("EXIT 1 does not", rows.tick(0, 0), ScanRows.NONE);
        Check.due("PAUSE does not", rows.tick(0, 1), ScanRows.NONE);
        Check.due("PAUSE does not", rows.tick(1, 1), ScanRows.NONE);
        Check.due("EXIT 2 does not", rows.tick(0, 1), ScanRows.NONE);
        Check.due("the third bit", rows.tick(0, 0), 0);
        Check.due("the fourth bit", rows.tick(0, 0), 1);
    }

    private static void resetReached() {
        Check.says("is 2 at first, and whenever RESET is reached");
        for (int code = 0; code < 16; code++) {
            ScanRows rows = new ScanRows(0);
            Check.due("at first", rows.count(4), 2);
            Check.code(rows, code);
            Check.walk(rows, "11");
            Check.due("in SELECT CODE", rows.state(), 9);
            Check.due("not yet", rows.count(4), code);
            Check.walk(rows, "1");
            Check.due("in RESET", rows.state(), 0);
            Check.due("the code", rows.count(4), 2);
            Check.due("the bits", rows.count(3), 32);
        }
    }

    private static void resetAgain() {
        Check.says("whenever RESET is reached");
        ScanRows rows = Check.withCells("1");
        Check.code(rows, 0);
        Check.write(rows, "1");
        Check.driven("held with OUTSIDE", rows, "1");
        Check.walk(rows, "111");
        Check.driven("inside, with NUMBER", rows, "0");
        Check.walk(rows, "111");
        Check.due("RESET stays with mode 1", rows.state(), 0);
        Check.due("the code", rows.count(4), 2);
        Check.code(rows, 0);
        Check.driven("it holds what it held", rows, "1");
        Check.walk(rows, "111");
        Check.due("reached again", rows.state(), 0);
        Check.due("the code", rows.count(4), 2);
    }

    private static void fiveTimesMode1() {
        Check.says("By mode 0 / 1 they go on");
        for (int state = 0; state < 16; state++) {
            ScanRows rows = new ScanRows(0);
            Check.walk(rows, WAY[state] + "11111");
            Check.due("five times mode 1 from " + state, rows.state(), 0);
            Check.due("the code", rows.count(4), 2);
        }
    }
}
