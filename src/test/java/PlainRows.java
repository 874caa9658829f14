import java.util.ArrayList;
import java.util.Comparator;
import java.util.List;

/**
 * The document once more, in its plainest form and with other means than ScanRows, to hold the
 * answers of long runs against: registers are lists of bits, the whole travel is added up for each
 * exchange that is tried, and ways are found by trying all of them.
 */
final class PlainRows {
    private static final class Latch {
        int number;
        int clock;
        long x;
        long y;
        int value;
        boolean fromLogic;
    }

    private static final class Cell {
        int kind;
        int atPin;
        int held;
        int bit;
    }

    private final int number;
    private final List<Latch> latches = new ArrayList<>();
    private final List<List<Latch>> chains = new ArrayList<>();
    private final List<Cell> cells = new ArrayList<>();
    private List<Integer> numberBits = new ArrayList<>();
    private List<Integer> codeBits = new ArrayList<>();
    private int bypass;
    private int state = 0;
    private int code = 2;

    PlainRows(int number) {
        this.number = number;
    }

    int latch(int clock, long x, long y) {
        if (latches.size() == 32) {
            throw new UnsupportedOperationException();
        }
        if (clock < 0 || clock > 3 || Math.abs(x) > 1000 || Math.abs(y) > 1000
                || x == Long.MIN_VALUE || y == Long.MIN_VALUE) {
            throw new IllegalArgumentException();
        }
        Latch latch = new Latch();
        latch.number = latches.size();
        latch.clock = clock;
        latch.x = x;
        latch.y = y;
        latches.add(latch);
        return latch.number;
    }

    int make(int howMany) {
        if (howMany < 1 || howMany > 8) {
            throw new IllegalArgumentException();
        }
        List<Latch> sorted = new ArrayList<>(latches);
        sorted.sort(Comparator.<Latch>comparingInt(l -> l.clock).thenComparingLong(l -> l.x)
                .thenComparingLong(l -> l.y).thenComparingInt(l -> l.number));
        chains.clear();
        int longest = 0;
        for (int c = 0; c < howMany; c++) {
            int length = sorted.size() / howMany + (c < sorted.size() % howMany ? 1 : 0);
            int before = chains.stream().mapToInt(List::size).sum();
            chains.add(new ArrayList<>(sorted.subList(before, before + length)));
            longest = Math.max(longest, length);
        }
        return longest;
    }

    private List<Latch> chain(int chain) {
        if (chain < 0 || chain >= chains.size()) {
            throw new IndexOutOfBoundsException();
        }
        return chains.get(chain);
    }

    int at(int chain, int k) {
        List<Latch> places = chain(chain);
        if (k < 0) {
            throw new IndexOutOfBoundsException();
        }
        return k < places.size() ? places.get(k).number : -1;
    }

    boolean lockUp(int chain, int k) {
        List<Latch> places = chain(chain);
        if (k < 0 || k >= places.size()) {
            throw new IndexOutOfBoundsException();
        }
        return k < places.size() - 1 && places.get(k).clock != places.get(k + 1).clock;
    }

    long travel() {
        long way = 0;
        for (List<Latch> places : chains) {
            Latch before = null;
            for (Latch latch : places) {
                if (before != null) {
                    way += Math.abs(before.x - latch.x) + Math.abs(before.y - latch.y);
                }
                before = latch;
            }
        }
        return way;
    }

    int improve(int steps) {
        if (steps < 0) {
            throw new IllegalArgumentException();
        }
        int done = 0;
        while (done < steps && improved()) {
            done++;
        }
        return done;
    }

    private boolean improved() {
        long way = travel();
        for (Latch a : latches) {
            for (Latch b : latches) {
                if (a.number < b.number && a.clock == b.clock && placed(a) && placed(b)) {
                    exchange(a, b);
                    if (travel() < way) {
                        return true;
                    }
                    exchange(a, b);
                }
            }
        }
        return false;
    }

    private void exchange(Latch a, Latch b) {
        for (List<Latch> places : chains) {
            places.replaceAll(l -> l == a ? b : l == b ? a : l);
        }
    }

    private boolean placed(Latch latch) {
        return chains.stream().anyMatch(places -> places.contains(latch));
    }

    int rule(int k, int what) {
        if (k < 0 || what < 0 || what > 1) {
            throw new IndexOutOfBoundsException();
        }
        List<int[]> broken = new ArrayList<>();
        for (Latch latch : latches) {
            if (latch.fromLogic) {
                broken.add(new int[] {0, latch.number});
            }
            if (!placed(latch)) {
                broken.add(new int[] {1, latch.number});
            }
        }
        return k < broken.size() ? broken.get(k)[what] : -1;
    }

    private Latch latchOf(int latch) {
        if (latch < 0 || latch >= latches.size()) {
            throw new IndexOutOfBoundsException();
        }
        return latches.get(latch);
    }

    boolean set(int latch, boolean fromLogic) {
        Latch it = latchOf(latch);
        boolean had = it.fromLogic;
        it.fromLogic = fromLogic;
        return had != fromLogic;
    }

    void load(int latch, int v) {
        latchOf(latch).value = v != 0 ? 1 : 0;
    }

    int value(int latch) {
        return latchOf(latch).value;
    }

    int shift(int bits) {
        int outs = 0;
        for (int c = 0; c < chains.size(); c++) {
            outs += moved(chains.get(c), (bits & 1 << c) != 0 ? 1 : 0) << c;
        }
        return outs;
    }

    private static int moved(List<Latch> places, int bit) {
        if (places.isEmpty()) {
            return 0;
        }
        int last = places.size() - 1;
        int out = places.get(last).value;
        for (int k = last; k > 0; k--) {
            places.get(k).value = places.get(k - 1).value;
        }
        places.get(0).value = bit;
        return out;
    }

    int port(int kind) {
        if (cells.size() == 20) {
            throw new UnsupportedOperationException();
        }
        if (kind != 0 && kind != 1) {
            throw new IllegalArgumentException();
        }
        Cell cell = new Cell();
        cell.kind = kind;
        cells.add(cell);
        return cells.size() - 1;
    }

    private Cell cellOf(int cell) {
        if (cell < 0 || cell >= cells.size()) {
            throw new IndexOutOfBoundsException();
        }
        return cells.get(cell);
    }

    void pin(int cell, int v) {
        cellOf(cell).atPin = v != 0 ? 1 : 0;
    }

    int tick(int mode, int bit) {
        if (mode < 0 || mode > 1 || bit < 0 || bit > 1) {
            throw new IllegalArgumentException();
        }
        int out = -1;
        if (state == 3) {
            captureData();
        } else if (state == 4) {
            out = shiftData(bit);
        } else if (state == 8 && code < 2) {
            cells.forEach(c -> c.held = c.bit);
        } else if (state == 10) {
            codeBits = new ArrayList<>(List.of(0, 0, 0, 1));
        } else if (state == 11) {
            out = moveList(codeBits, bit);
        } else if (state == 15) {
            code = codeBits.stream().reduce(0, (sum, b) -> sum * 2 + b);
        }
        state = next(state, mode);
        if (state == 0) {
            code = 2;
        }
        return out;
    }

    private static int moveList(List<Integer> bits, int bit) {
        bits.add(0, bit);
        return bits.remove(bits.size() - 1);
    }

    private List<Latch> allPlaces() {
        List<Latch> all = new ArrayList<>();
        chains.forEach(all::addAll);
        return all;
    }

    private void captureData() {
        if (code == 2) {
            numberBits = new ArrayList<>();
            for (int i = 31; i >= 0; i--) {
                numberBits.add((number & 1 << i) != 0 ? 1 : 0);
            }
        } else if (code < 2 && !cells.isEmpty()) {
            cells.forEach(c -> c.bit = c.atPin);
        } else if (code != 3 || allPlaces().isEmpty()) {
            bypass = 0;
        }
    }

    private int shiftData(int bit) {
        int out;
        if (code == 2) {
            out = moveList(numberBits, bit);
        } else if (code < 2 && !cells.isEmpty()) {
            out = cells.get(cells.size() - 1).bit;
            for (int i = cells.size() - 1; i > 0; i--) {
                cells.get(i).bit = cells.get(i - 1).bit;
            }
            cells.get(0).bit = bit;
        } else if (code == 3 && !allPlaces().isEmpty()) {
            out = moved(allPlaces(), bit);
        } else {
            out = bypass;
            bypass = bit;
        }
        return out;
    }

    private static int next(int from, int mode) {
        if (from >= 10 && from < 15) {
            return next(from - 7, mode) + 7;
        }
        switch (from) {
            case 0: return mode == 0 ? 1 : 0;
            case 1: return mode == 0 ? 1 : 2;
            case 2: return mode == 0 ? 3 : 9;
            case 3:
            case 4: return mode == 0 ? 4 : 5;
            case 5: return mode == 0 ? 6 : 8;
            case 6: return mode == 0 ? 6 : 7;
            case 7: return mode == 0 ? 4 : 8;
            case 9: return mode == 0 ? 10 : 0;
            default: return mode == 0 ? 1 : 2;
        }
    }

    int state() {
        return state;
    }

    int go(int goal) {
        if (goal < 0 || goal > 15) {
            throw new IllegalArgumentException();
        }
        for (int ticks = 0; ; ticks++) {
            // Counting up tries the ways with mode 0 in front first.
            for (int way = 0; way < 1 << ticks; way++) {
                if (leads(way, ticks, goal)) {
                    for (int i = ticks - 1; i >= 0; i--) {
                        tick(way >> i & 1, 0);
                    }
                    return ticks;
                }
            }
        }
    }

    private boolean leads(int way, int ticks, int goal) {
        int reached = state;
        for (int i = ticks - 1; i >= 0; i--) {
            reached = next(reached, way >> i & 1);
        }
        return reached == goal;
    }

    int boundary(int cell) {
        Cell it = cellOf(cell);
        return it.kind == 1 && code == 0 ? it.held : it.atPin;
    }

    int count(int what) {
        switch (what) {
            case 0: return latches.size();
            case 1: return chains.size();
            case 2: return cells.size();
            case 3:
                int bits = code < 2 ? cells.size() : code == 2 ? 32 : code == 3 ? allPlaces().size() : 1;
                return Math.max(bits, 1);
            case 4: return code;
            default: throw new IndexOutOfBoundsException();
        }
    }
}
