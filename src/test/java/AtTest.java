/** Promise 4: at. */
public final class AtTest {
    public static void main(String[] args) {
        thePlaces();
        behindTheLast();
        ofAnEmptyChain();
        placeBelow0();
        noSuchChain();
        chainsThatWere();
        Check.end();
    }

    private static void thePlaces() {
        Check.says("The latch at place k of a chain");
        ScanRows rows = new ScanRows(0);
        rows.latch(0, 2, 0);
        rows.latch(0, 1, 0);
        rows.latch(0, 0, 0);
        rows.make(2);
        Check.due("at(0, 0)", rows.at(0, 0), 2);
        Check.due("at(0, 1)", rows.at(0, 1), 1);
        Check.due("at(1, 0)", rows.at(1, 0), 0);
        ScanRows full = Check.inLine(32);
        full.make(1);
        Check.due("at(0, 31)", full.at(0, 31), 31);
        full.make(8);
        Check.due("at(7, 3)", full.at(7, 3), 31);
    }

    private static void behindTheLast() {
        Check.says("NONE behind its last one");
        ScanRows rows = Check.inLine(5);
        rows.make(2);
        for (int k : new int[] {3, 4, 5, 31, 32, 1 << 30, Integer.MAX_VALUE - 1, Integer.MAX_VALUE}) {
            Check.due("at(0, " + k + ")", rows.at(0, k), ScanRows.NONE);
            Check.due("at(1, " + k + ")", rows.at(1, k), ScanRows.NONE);
        }
        Check.due("at(1, 2)", rows.at(1, 2), ScanRows.NONE);
        Check.due("at(1, 1)", rows.at(1, 1), 4);
        rows.latch(0, 9, 9);
        Check.due("with a latch in no chain", rows.at(1, 2), ScanRows.NONE);
        ScanRows full = Check.inLine(32);
        full.make(1);
        Check.due("at(0, 32)", full.at(0, 32), ScanRows.NONE);
    }

    private static void ofAnEmptyChain() {
        Check.says("(A chain may be empty.)");
        ScanRows rows = new ScanRows(0);
        rows.make(2);
        Check.due("at(0, 0)", rows.at(0, 0), ScanRows.NONE);
        Check.due("at(1, 0)", rows.at(1, 0), ScanRows.NONE);
        Check.due("at(1, 9)", rows.at(1, 9), ScanRows.NONE);
        rows.latch(0, 0, 0);
        rows.make(3);
        Check.due("at(1, 0)", rows.at(1, 0), ScanRows.NONE);
        Check.due("at(2, 0)", rows.at(2, 0), ScanRows.NONE);
    }

    private static void placeBelow0() {
        Check.says("IndexOutOfBoundsException: also k below 0.");
        ScanRows rows = Check.inLine(3);
        rows.make(4);
        for (int chain = 0; chain < 4; chain++) {
            int it = chain;
            Check.noIndex("at(" + it + ", -1)", () -> rows.at(it, -1));
            Check.noIndex("at(" + it + ", -2)", () -> rows.at(it, -2));
            Check.noIndex("at(" + it + ", the least)", () -> rows.at(it, Integer.MIN_VALUE));
        }
    }

    private static void noSuchChain() {
        Check.says("IndexOutOfBoundsException: there is no such latch, chain, place or cell.");
        ScanRows rows = Check.inLine(3);
        Check.noIndex("at(0, 0) before make", () -> rows.at(0, 0));
        rows.make(2);
        for (int chain : new int[] {-1, 2, 3, 7, 8, 9, Integer.MIN_VALUE, Integer.MAX_VALUE}) {
            Check.noIndex("at(" + chain + ", 0)", () -> rows.at(chain, 0));
            Check.noIndex("at(" + chain + ", 99)", () -> rows.at(chain, 99));
            Check.noIndex("at(" + chain + ", -1)", () -> rows.at(chain, -1));
        }
        rows.make(8);
        for (int chain : new int[] {-1, 8, 9}) {
            Check.noIndex("at(" + chain + ", 0) of eight", () -> rows.at(chain, 0));
        }
    }

    private static void chainsThatWere() {
        Check.says("there is no such latch, chain, place or cell");
        ScanRows rows = Check.inLine(8);
        rows.make(8);
        rows.make(1);
        Check.noIndex("at(1, 0)", () -> rows.at(1, 0));
        Check.noIndex("at(7, 0)", () -> rows.at(7, 0));
    }
}
