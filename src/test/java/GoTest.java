/** Promise 17: go. */
public final class GoTest {
    public static void main(String[] args) {
        fromReset();
        wayBack();
        everyWayIsShortest();
        whatTicksDo();
        wrongOnes();
        Check.end();
    }

    private static void fromReset() {
        int[] want = {0, 1, 2, 3, 4, 4, 5, 6, 5, 3, 4, 5, 5, 6, 7, 6};
        for (int state = 0; state < 16; state++) {
            ScanRows rows = new ScanRows(0);
            Check.due("go(" + state + ") from RESET", rows.go(state), want[state]);
            Check.due("the state", rows.state(), state);
            Check.due("it is there", rows.go(state), 0);
            Check.due("and stays", rows.state(), state);
        }
    }

    private static void wayBack() {
        int[] want = {0, 3, 2, 5, 5, 4, 5, 4, 3, 1, 5, 5, 4, 5, 4, 3};
        for (int state = 0; state < 16; state++) {
            ScanRows rows = new ScanRows(0);
            rows.go(state);
            Check.due("go(0) from " + state, rows.go(0), want[state]);
            Check.due("the state", rows.state(), 0);
            Check.due("the code", rows.count(4), 2);
        }
    }

    private static void everyWayIsShortest() {
        for (int from = 0; from < 16; from++) {
            for (int to = 0; to < 16; to++) {
                ScanRows rows = new ScanRows(0);
                rows.go(from);
                int ticks = rows.go(to);
                Check.due("reached", rows.state(), to);
                Check.due("from " + from + " to " + to, ticks, shortest(from, to));
            }
        }
    }

    /** Tries all ways of one tick, of two, and so on, on objects of their own. */
    private static int shortest(int from, int to) {
        boolean[] reached = new boolean[16];
        reached[from] = true;
        int ticks = 0;
        while (!reached[to] && ticks < 16) {
            boolean[] next = new boolean[16];
            for (int state = 0; state < 16; state++) {
                for (int mode = 0; reached[state] && mode <= 1; mode++) {
                    ScanRows rows = new ScanRows(0);
                    rows.go(state);
                    rows.tick(mode, 0);
                    next[rows.state()] = true;
                }
            }
            reached = next;
            ticks++;
        }
        return ticks;
    }

    private static void whatTicksDo() {
        ScanRows rows = new ScanRows(0);
        rows.latch(0, 0, 0);
        rows.latch(0, 1, 0);
        rows.make(1);
        rows.load(0, 1);
        rows.load(1, 1);
        Check.due("to SHIFT CODE", rows.go(11), 5);
        rows.tick(0, 1);
        rows.tick(0, 1);
        rows.tick(0, 0);
        rows.tick(1, 0);
        Check.due("to IDLE", rows.go(1), 2);
        Check.due("the update was ticked", rows.count(4), 3);
        Check.due("to SHIFT DATA", rows.go(4), 3);
        Check.due("nothing has moved", rows.value(0), 1);
        Check.due("there already", rows.go(4), 0);
        Check.due("nothing has moved", rows.value(0), 1);
        Check.due("to PAUSE DATA", rows.go(6), 2);
        Check.due("bit 0 came in", rows.value(0), 0);
        Check.due("all moved by one", rows.value(1), 1);
    }

    private static void wrongOnes() {
        ScanRows rows = new ScanRows(0);
        rows.go(6);
        for (int state : new int[] {-1, 16, Integer.MIN_VALUE, Integer.MAX_VALUE}) {
            Check.noArgument("go(" + state + ")", () -> rows.go(state));
        }
        Check.due("the state is as it was", rows.state(), 6);
    }
}
