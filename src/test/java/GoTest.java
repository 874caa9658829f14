/** Promise 17: go. */
public final class GoTest {
    private static final int[][] NEXT = {
        {1, 0}, {1, 2}, {3, 9}, {4, 5}, {4, 5}, {6, 8}, {6, 7}, {4, 8}, {1, 2},
        {10, 0}, {11, 12}, {11, 12}, {13, 15}, {13, 14}, {11, 15}, {1, 2},
    };

    public static void main(String[] args) {
        itIsThere();
        fromReset();
        toReset();
        everyWayIsShortest();
        oneWayAlone();
        eachWithBit0();
        ticksDoWhatTheyDo();
        resetByGo();
        wrongOnes();
        refusedOnesTickNothing();
        Check.end();
    }

    private static void itIsThere() {
        Check.says("Ticks until a state is reached");
        for (int state = 0; state < 16; state++) {
            ScanRows rows = Check.inLine(1);
            rows.make(1);
            rows.load(0, 1);
            Check.code(rows, 3);
            rows.go(state);
            int code = rows.count(4);
            Check.due("go(" + state + ") in it", rows.go(state), 0);
            Check.due("the state", rows.state(), state);
            Check.due("the code", rows.count(4), code);
        }
        ScanRows shifting = Check.inLine(1);
        shifting.make(1);
        shifting.load(0, 1);
        Check.code(shifting, 3);
        Check.due("go(4)", shifting.go(4), 3);
        Check.due("go(4) in it", shifting.go(4), 0);
        Check.values("nothing has moved", shifting, "1");
    }

    private static void fromReset() {
        Check.says("by the shortest way");
        int[] want = {0, 1, 2, 3, 4, 4, 5, 6, 5, 3, 4, 5, 5, 6, 7, 6};
        for (int state = 0; state < 16; state++) {
            ScanRows rows = new ScanRows(0);
            Check.due("go(" + state + ") from RESET", rows.go(state), want[state]);
            Check.due("the state", rows.state(), state);
        }
    }

    private static void toReset() {
        Check.says("by the shortest way");
        int[] want = {0, 3, 2, 5, 5, 4, 5, 4, 3, 1, 5, 5, 4, 5, 4, 3};
        for (int state = 0; state < 16; state++) {
            ScanRows rows = new ScanRows(0);
            rows.go(state);
            Check.due("go(0) from " + state, rows.go(0), want[state]);
            Check.due("the state", rows.state(), 0);
        }
    }

    private static void everyWayIsShortest() {
        Check.says("by the shortest way");
        for (int from = 0; from < 16; from++) {
            for (int to = 0; to < 16; to++) {
                ScanRows rows = new ScanRows(0);
                rows.go(from);
                Check.due("from " + from + " to " + to, rows.go(to), shortest(from, to));
                Check.due("the state", rows.state(), to);
            }
        }
    }

    /** Tries all ways of one tick, of two, and so on. */
    private static int shortest(int from, int to) {
        boolean[] reached = new boolean[16];
        reached[from] = true;
        int ticks = 0;
        while (!reached[to] && ticks < 16) {
            boolean[] next = new boolean[16];
            for (int state = 0; state < 16; state++) {
                if (reached[state]) {
                    next[NEXT[state][0]] = true;
                    next[NEXT[state][1]] = true;
                }
            }
            reached = next;
            ticks++;
        }
        return ticks;
    }

    /** The document's choice among ways as short never comes up: there is one for each two states. */
    private static void oneWayAlone() {
        Check.says("of the ways as short the one that has mode 0 first");
        for (int from = 0; from < 16; from++) {
            for (int to = 0; to < 16; to++) {
                boolean as = shortest(NEXT[from][0], to) == shortest(NEXT[from][1], to);
                Check.due("ways as short from " + from + " to " + to, from != to && as, false);
            }
        }
    }

    private static void eachWithBit0() {
        Check.says("each with bit 0");
        ScanRows rows = Check.inLine(2);
        rows.make(1);
        Check.load(rows, "11");
        Check.code(rows, 3);
        rows.go(4);
        Check.due("to PAUSE DATA", rows.go(6), 2);
        Check.values("a 0 came in", rows, "01");
        ScanRows code = new ScanRows(0);
        code.go(11);
        Check.bits("of the code", code, "1111", "1000");
        Check.due("to UPDATE CODE", code.go(15), 2);
        Check.due("to IDLE", code.go(1), 1);
        Check.due("a 0 came in", code.count(4), 7);
    }

    private static void ticksDoWhatTheyDo() {
        Check.says("Ticks until a state is reached");
        ScanRows rows = Check.withCells("11");
        Check.pins(rows, "10");
        Check.due("to SHIFT CODE", rows.go(11), 5);
        Check.bits("1 was captured on the way", rows, "000", "100");
        rows.tick(1, 0);
        Check.due("to IDLE", rows.go(1), 2);
        Check.due("the code was updated on the way", rows.count(4), 0);
        Check.due("to EXIT 1 DATA", rows.go(5), 3);
        Check.due("to UPDATE DATA", rows.go(8), 1);
        Check.driven("not before the update's tick", rows, "00");
        Check.due("to IDLE", rows.go(1), 1);
        Check.driven("captured and updated on the way", rows, "10");
    }

    private static void resetByGo() {
        Check.says("whenever RESET is reached");
        ScanRows rows = new ScanRows(0);
        Check.code(rows, 9);
        Check.due("go(0)", rows.go(0), 3);
        Check.due("the code", rows.count(4), 2);
        Check.due("go(0) again", rows.go(0), 0);
        Check.due("the code", rows.count(4), 2);
    }

    private static void wrongOnes() {
        Check.says("IllegalArgumentException: there is no such state.");
        for (int from = 0; from < 16; from++) {
            ScanRows rows = new ScanRows(0);
            rows.go(from);
            for (int state : new int[] {-1, 16, 17, 256, Integer.MIN_VALUE, Integer.MAX_VALUE}) {
                Check.noArgument("go(" + state + ") from " + from, () -> rows.go(state));
            }
        }
    }

    private static void refusedOnesTickNothing() {
        Check.says("A call that throws changes nothing.");
        ScanRows rows = new ScanRows(0b101);
        rows.go(4);
        Check.noArgument("go(16)", () -> rows.go(16));
        Check.noArgument("go(-1)", () -> rows.go(-1));
        Check.due("the state", rows.state(), 4);
        Check.bits("nothing has moved", rows, "000", "101");
    }
}
