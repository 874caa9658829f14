/** Promise 5: lockUp. */
public final class LockUpTest {
    public static void main(String[] args) {
        anotherClock();
        behindTheLast();
        betweenChains();
        noSuchPlace();
        ofAnEmptyChain();
        noSuchChain();
        Check.end();
    }

    private static ScanRows ofThreeClocks() {
        ScanRows rows = new ScanRows(0);
        rows.latch(0, 0, 0);
        rows.latch(0, 1, 0);
        rows.latch(2, 0, 0);
        rows.latch(3, 0, 0);
        return rows;
    }

    private static void anotherClock() {
        Check.says("behind place k of a chain if the next place's latch has another clock");
        ScanRows rows = ofThreeClocks();
        rows.make(1);
        Check.due("of one clock", rows.lockUp(0, 0), false);
        Check.due("from 0 to 2", rows.lockUp(0, 1), true);
        Check.due("from 2 to 3", rows.lockUp(0, 2), true);
        ScanRows one = new ScanRows(0);
        one.latch(3, -1000, -1000);
        one.latch(3, 1000, 1000);
        one.make(1);
        Check.due("at other places", one.lockUp(0, 0), false);
    }

    private static void behindTheLast() {
        Check.says("the next place's latch");
        ScanRows rows = ofThreeClocks();
        rows.make(1);
        Check.due("of four", rows.lockUp(0, 3), false);
        rows.latch(1, 0, 0);
        Check.due("of four, with a latch in no chain", rows.lockUp(0, 3), false);
        rows.make(8);
        Check.due("of one", rows.lockUp(4, 0), false);
        ScanRows full = new ScanRows(0);
        for (int i = 0; i < 32; i++) {
            full.latch(i / 8, i, 0);
        }
        full.make(1);
        Check.due("of 32", full.lockUp(0, 31), false);
        Check.due("before it", full.lockUp(0, 30), false);
        Check.due("the last lock-up", full.lockUp(0, 23), true);
    }

    private static void betweenChains() {
        Check.says("the next place's latch");
        ScanRows rows = ofThreeClocks();
        rows.make(2);
        Check.due("the first chain's last place", rows.lockUp(0, 1), false);
        Check.due("the second chain's first place", rows.lockUp(1, 0), true);
        Check.due("the second chain's last place", rows.lockUp(1, 1), false);
        rows.make(4);
        for (int chain = 0; chain < 4; chain++) {
            Check.due("chain " + chain + " of one", rows.lockUp(chain, 0), false);
        }
    }

    private static void noSuchPlace() {
        Check.says("IndexOutOfBoundsException: also when that has no such place.");
        ScanRows rows = ofThreeClocks();
        rows.make(2);
        for (int k : new int[] {-1, 2, 3, 31, 32, Integer.MIN_VALUE, Integer.MAX_VALUE}) {
            Check.noIndex("lockUp(0, " + k + ")", () -> rows.lockUp(0, k));
            Check.noIndex("lockUp(1, " + k + ")", () -> rows.lockUp(1, k));
        }
    }

    private static void ofAnEmptyChain() {
        Check.says("IndexOutOfBoundsException: also when that has no such place.");
        ScanRows rows = new ScanRows(0);
        rows.make(1);
        Check.noIndex("without latches", () -> rows.lockUp(0, 0));
        rows.latch(0, 0, 0);
        Check.noIndex("with a latch in no chain", () -> rows.lockUp(0, 0));
        rows.make(8);
        Check.due("of one latch", rows.lockUp(0, 0), false);
        for (int chain = 1; chain < 8; chain++) {
            int it = chain;
            Check.noIndex("of empty chain " + chain, () -> rows.lockUp(it, 0));
            Check.noIndex("of empty chain " + chain + ", below 0", () -> rows.lockUp(it, -1));
        }
    }

    private static void noSuchChain() {
        Check.says("IndexOutOfBoundsException: there is no such latch, chain, place or cell.");
        ScanRows rows = ofThreeClocks();
        Check.noIndex("before make", () -> rows.lockUp(0, 0));
        rows.make(8);
        Check.noIndex("lockUp(8, 0) of eight", () -> rows.lockUp(8, 0));
        rows.make(1);
        for (int chain : new int[] {-1, 1, 2, 8, 9, Integer.MIN_VALUE, Integer.MAX_VALUE}) {
            Check.noIndex("lockUp(" + chain + ", 0)", () -> rows.lockUp(chain, 0));
        }
    }
}
