/**
 * Latches in chains that shift, and the port with sixteen states by which the chains, a number
 * and the cells at the pins are read and set, bit by bit.
 */
public final class ScanRows {
    public static final int NONE = -1;

    private static final int MOST_LATCHES = 32;
    private static final int MOST_CHAINS = 8;
    private static final int MOST_CELLS = 20;
    private static final int CLOCKS = 4;
    private static final int FARTHEST = 1000;
    private static final int STATES = 16;

    private final Rows rows;
    private final Cells cells;
    private final Access access;

    public ScanRows(int number) {
        rows = new Rows();
        cells = new Cells();
        access = new Access(number, rows, cells);
    }

    public int latch(int clock, long x, long y)
            throws UnsupportedOperationException, IllegalArgumentException {
        if (rows.latches >= MOST_LATCHES) {
            throw new UnsupportedOperationException("there are as many latches as there can be");
        }
        if (clock < 0 || clock >= CLOCKS) {
            throw new IllegalArgumentException("no such clock");
        }
        if (x < -FARTHEST || x > FARTHEST || y < -FARTHEST || y > FARTHEST) {
            throw new IllegalArgumentException("no such place");
        }
        return rows.addLatch(clock, (int) x, (int) y);
    }

    public int make(int chains) throws IllegalArgumentException {
        if (chains < 1 || chains > MOST_CHAINS) {
            throw new IllegalArgumentException("chains are not 1 to 8");
        }
        return rows.arrange(chains);
    }

    public int at(int chain, int k) throws IndexOutOfBoundsException {
        if (!rows.hasChain(chain) || k < 0) {
            throw new IndexOutOfBoundsException("no such chain or place");
        }
        return k < rows.lengthOf(chain) ? rows.latchAt(chain, k) : NONE;
    }

    public boolean lockUp(int chain, int k) throws IndexOutOfBoundsException {
        if (!rows.hasChain(chain) || k < 0 || k >= rows.lengthOf(chain)) {
            throw new IndexOutOfBoundsException("no such chain or place");
        }
        return rows.clockChangesBehind(chain, k);
    }

    public long travel() {
        return rows.wholeWay();
    }

    public int improve(int steps) throws IllegalArgumentException {
        if (steps < 0) {
            throw new IllegalArgumentException("steps are below 0");
        }
        return rows.exchangeUpTo(steps);
    }

    public int rule(int k, int what) throws IndexOutOfBoundsException {
        if (k < 0 || what < 0 || what > 1) {
            throw new IndexOutOfBoundsException("no such rule or no such what");
        }
        return rows.brokenRule(k, what);
    }

    public boolean set(int latch, boolean fromLogic) throws IndexOutOfBoundsException {
        requireLatch(latch);
        return rows.changeSet(latch, fromLogic);
    }

    public void load(int latch, int v) throws IndexOutOfBoundsException {
        requireLatch(latch);
        rows.value[latch] = asBit(v);
    }

    public int value(int latch) throws IndexOutOfBoundsException {
        requireLatch(latch);
        return rows.value[latch];
    }

    public int shift(int bits) {
        return rows.shiftChains(bits);
    }

    public int port(int kind) throws UnsupportedOperationException, IllegalArgumentException {
        if (cells.count >= MOST_CELLS) {
            throw new UnsupportedOperationException("there are as many cells as there can be");
        }
        if (kind != Cells.INPUT && kind != Cells.OUTPUT) {
            throw new IllegalArgumentException("no such kind");
        }
        return cells.addCell(kind);
    }

    public void pin(int cell, int v) throws IndexOutOfBoundsException {
        requireCell(cell);
        cells.atPin[cell] = asBit(v);
    }

    public int tick(int mode, int bit) throws IllegalArgumentException {
        if (mode < 0 || mode > 1 || bit < 0 || bit > 1) {
            throw new IllegalArgumentException("mode or bit is not 0 or 1");
        }
        return access.step(mode, bit);
    }

    public int state() {
        return access.state;
    }

    public int go(int state) throws IllegalArgumentException {
        if (state < 0 || state >= STATES) {
            throw new IllegalArgumentException("no such state");
        }
        return access.stepUntil(state);
    }

    public int boundary(int cell) throws IndexOutOfBoundsException {
        requireCell(cell);
        return cells.drivenAt(cell, access.code == Access.OUTSIDE);
    }

    public int count(int what) throws IndexOutOfBoundsException {
        switch (what) {
            case 0:
                return rows.latches;
            case 1:
                return rows.chains;
            case 2:
                return cells.count;
            case 3:
                return access.registerLength();
            case 4:
                return access.code;
            default:
                throw new IndexOutOfBoundsException("no such what");
        }
    }

    private void requireLatch(int latch) {
        if (latch < 0 || latch >= rows.latches) {
            throw new IndexOutOfBoundsException("no such latch");
        }
    }

    private void requireCell(int cell) {
        if (cell < 0 || cell >= cells.count) {
            throw new IndexOutOfBoundsException("no such cell");
        }
    }

    private static int asBit(int v) {
        return v == 0 ? 0 : 1;
    }

    /**
     * The latches and the chains. All chains stand in one row, one behind the other, so that the
     * port can shift them as one register; a place here is a place in that row.
     */
    private static final class Rows {
        int latches;
        int chains;
        /** How many latches stand in the row; fewer than there are, if some came after it. */
        int placed;
        final int[] value;

        private final int[] clock;
        private final int[] x;
        private final int[] y;
        private final boolean[] fromLogic;
        private final int[] placeOf;
        private final int[] row;
        private final int[] chainOf;
        private final int[] start;

        Rows() {
            value = new int[MOST_LATCHES];
            clock = new int[MOST_LATCHES];
            x = new int[MOST_LATCHES];
            y = new int[MOST_LATCHES];
            fromLogic = new boolean[MOST_LATCHES];
            placeOf = new int[MOST_LATCHES];
            row = new int[MOST_LATCHES];
            chainOf = new int[MOST_LATCHES];
            start = new int[MOST_CHAINS + 1];
        }

        int addLatch(int itsClock, int itsX, int itsY) {
            int latch = latches;
            clock[latch] = itsClock;
            x[latch] = itsX;
            y[latch] = itsY;
            placeOf[latch] = NONE;
            latches++;
            return latch;
        }

        int arrange(int howMany) {
            sortRow();
            cutRow(howMany);
            return lengthOf(0);
        }

        private void sortRow() {
            // Latches come by their numbers, so that of equals the lower number stays in front.
            for (int latch = 0; latch < latches; latch++) {
                int place = latch;
                while (place > 0 && standsBefore(latch, row[place - 1])) {
                    row[place] = row[place - 1];
                    place--;
                }
                row[place] = latch;
            }
            placed = latches;
            for (int place = 0; place < placed; place++) {
                placeOf[row[place]] = place;
            }
        }

        private boolean standsBefore(int a, int b) {
            if (clock[a] != clock[b]) {
                return clock[a] < clock[b];
            }
            if (x[a] != x[b]) {
                return x[a] < x[b];
            }
            return y[a] < y[b];
        }

        private void cutRow(int howMany) {
            int least = placed / howMany;
            int longer = placed - least * howMany;
            int place = 0;
            for (int chain = 0; chain < howMany; chain++) {
                start[chain] = place;
                int end = place + least + (chain < longer ? 1 : 0);
                for (; place < end; place++) {
                    chainOf[place] = chain;
                }
            }
            start[howMany] = place;
            chains = howMany;
        }

        boolean hasChain(int chain) {
            return chain >= 0 && chain < chains;
        }

        int lengthOf(int chain) {
            return start[chain + 1] - start[chain];
        }

        int latchAt(int chain, int k) {
            return row[start[chain] + k];
        }

        boolean clockChangesBehind(int chain, int k) {
            int place = start[chain] + k;
            return hasNeighbourBehind(place) && clock[row[place]] != clock[row[place + 1]];
        }

        private boolean hasNeighbourBehind(int place) {
            return place >= 0 && place + 1 < placed && chainOf[place] == chainOf[place + 1];
        }

        long wholeWay() {
            long way = 0;
            for (int place = 0; place < placed; place++) {
                way += wayBehind(place);
            }
            return way;
        }

        private int wayBehind(int place) {
            if (!hasNeighbourBehind(place)) {
                return 0;
            }
            int a = row[place];
            int b = row[place + 1];
            return Math.abs(x[a] - x[b]) + Math.abs(y[a] - y[b]);
        }

        private int wayAround(int place) {
            return wayBehind(place - 1) + wayBehind(place);
        }

        int exchangeUpTo(int steps) {
            for (int done = 0; done < steps; done++) {
                if (!exchangeOnce()) {
                    return done;
                }
            }
            return steps;
        }

        private boolean exchangeOnce() {
            for (int a = 0; a < latches; a++) {
                for (int b = a + 1; b < latches; b++) {
                    if (mayExchange(a, b) && exchangeIfShorter(placeOf[a], placeOf[b])) {
                        return true;
                    }
                }
            }
            return false;
        }

        private boolean mayExchange(int a, int b) {
            return clock[a] == clock[b] && placeOf[a] != NONE && placeOf[b] != NONE;
        }

        private boolean exchangeIfShorter(int p, int q) {
            // The way between two neighbours counts twice here, but it is as long after their
            // exchange as before, so the comparison holds for neighbours too.
            int before = wayAround(p) + wayAround(q);
            exchange(p, q);
            if (wayAround(p) + wayAround(q) < before) {
                return true;
            }
            exchange(p, q);
            return false;
        }

        private void exchange(int p, int q) {
            int latch = row[p];
            row[p] = row[q];
            row[q] = latch;
            placeOf[row[p]] = p;
            placeOf[row[q]] = q;
        }

        int brokenRule(int k, int what) {
            int before = 0;
            for (int latch = 0; latch < latches; latch++) {
                for (int sort = 0; sort <= 1; sort++) {
                    if (breaks(latch, sort)) {
                        if (before == k) {
                            return what == 0 ? sort : latch;
                        }
                        before++;
                    }
                }
            }
            return NONE;
        }

        private boolean breaks(int latch, int sort) {
            return sort == 0 ? fromLogic[latch] : placeOf[latch] == NONE;
        }

        boolean changeSet(int latch, boolean isFromLogic) {
            boolean another = fromLogic[latch] != isFromLogic;
            fromLogic[latch] = isFromLogic;
            return another;
        }

        int shiftChains(int bits) {
            int outs = 0;
            for (int chain = 0; chain < chains; chain++) {
                int bit = (bits >> chain) & 1;
                outs |= shiftPlaces(start[chain], start[chain + 1], bit) << chain;
            }
            return outs;
        }

        int shiftWholeRow(int bit) {
            return shiftPlaces(0, placed, bit);
        }

        private int shiftPlaces(int from, int end, int bit) {
            if (from >= end) {
                return 0;
            }
            int carried = bit;
            for (int place = from; place < end; place++) {
                int latch = row[place];
                int had = value[latch];
                value[latch] = carried;
                carried = had;
            }
            return carried;
        }
    }

    /** The cells at the pins, with their row of bits in the register. */
    private static final class Cells {
        static final int INPUT = 0;
        static final int OUTPUT = 1;

        int count;
        /** What is outside of an input, and inside of an output. */
        final int[] atPin;

        private final int[] kindOf;
        private final int[] held;
        private final int[] inRegister;

        Cells() {
            atPin = new int[MOST_CELLS];
            kindOf = new int[MOST_CELLS];
            held = new int[MOST_CELLS];
            inRegister = new int[MOST_CELLS];
        }

        int addCell(int kind) {
            int cell = count;
            kindOf[cell] = kind;
            count++;
            return cell;
        }

        void capture() {
            for (int cell = 0; cell < count; cell++) {
                inRegister[cell] = atPin[cell];
            }
        }

        int shiftRegister(int bit) {
            int carried = bit;
            for (int cell = 0; cell < count; cell++) {
                int had = inRegister[cell];
                inRegister[cell] = carried;
                carried = had;
            }
            return carried;
        }

        void update() {
            for (int cell = 0; cell < count; cell++) {
                held[cell] = inRegister[cell];
            }
        }

        int drivenAt(int cell, boolean withHeld) {
            return withHeld && kindOf[cell] == OUTPUT ? held[cell] : atPin[cell];
        }
    }

    /** The port: its state, its code and what the code shifts. */
    private static final class Access {
        static final int OUTSIDE = 0;
        private static final int SAMPLE = 1;
        private static final int NUMBER = 2;
        private static final int CHAINS = 3;

        private static final int RESET = 0;
        private static final int CAPTURE_DATA = 3;
        private static final int SHIFT_DATA = 4;
        private static final int UPDATE_DATA = 8;
        private static final int CAPTURE_CODE = 10;
        private static final int SHIFT_CODE = 11;
        private static final int UPDATE_CODE = 15;

        private static final int OF_BYPASS = 0;
        private static final int OF_CELLS = 1;
        private static final int OF_NUMBER = 2;
        private static final int OF_CHAINS = 3;

        private static final int NUMBER_BITS = 32;
        private static final int CODE_BITS = 4;

        /** For each state where mode 0 leads and where mode 1 does. */
        private static final int[] NEXT = {
            1, 0,
            1, 2,
            3, 9,
            4, 5,
            4, 5,
            6, 8,
            6, 7,
            4, 8,
            1, 2,
            10, 0,
            11, 12,
            11, 12,
            13, 15,
            13, 14,
            11, 15,
            1, 2,
        };

        int state;
        int code;

        private final int number;
        private final Rows rows;
        private final Cells cells;
        private int codeInRegister;
        private int numberInRegister;
        private int bypassBit;
        private final int[] ticksFrom;

        Access(int number, Rows rows, Cells cells) {
            this.number = number;
            this.rows = rows;
            this.cells = cells;
            state = RESET;
            code = NUMBER;
            ticksFrom = new int[STATES];
        }

        int step(int mode, int bit) {
            int out = act(bit);
            state = NEXT[2 * state + mode];
            if (state == RESET) {
                code = NUMBER;
            }
            return out;
        }

        private int act(int bit) {
            switch (state) {
                case CAPTURE_DATA:
                    captureData();
                    return NONE;
                case SHIFT_DATA:
                    return shiftData(bit);
                case UPDATE_DATA:
                    updateData();
                    return NONE;
                case CAPTURE_CODE:
                    codeInRegister = 1;
                    return NONE;
                case SHIFT_CODE:
                    return shiftCode(bit);
                case UPDATE_CODE:
                    code = codeInRegister;
                    return NONE;
                default:
                    return NONE;
            }
        }

        private int register() {
            if (code == OUTSIDE || code == SAMPLE) {
                return cells.count > 0 ? OF_CELLS : OF_BYPASS;
            }
            if (code == NUMBER) {
                return OF_NUMBER;
            }
            return code == CHAINS && rows.placed > 0 ? OF_CHAINS : OF_BYPASS;
        }

        int registerLength() {
            switch (register()) {
                case OF_CELLS:
                    return cells.count;
                case OF_NUMBER:
                    return NUMBER_BITS;
                case OF_CHAINS:
                    return rows.placed;
                default:
                    return 1;
            }
        }

        private void captureData() {
            switch (register()) {
                case OF_CELLS:
                    cells.capture();
                    break;
                case OF_NUMBER:
                    numberInRegister = number;
                    break;
                case OF_CHAINS:
                    // The latches are the register: they have what they have.
                    break;
                default:
                    bypassBit = 0;
                    break;
            }
        }

        private int shiftData(int bit) {
            switch (register()) {
                case OF_CELLS:
                    return cells.shiftRegister(bit);
                case OF_NUMBER:
                    return shiftNumber(bit);
                case OF_CHAINS:
                    return rows.shiftWholeRow(bit);
                default:
                    return shiftBypass(bit);
            }
        }

        private int shiftNumber(int bit) {
            int out = numberInRegister & 1;
            numberInRegister = (numberInRegister >>> 1) | (bit << (NUMBER_BITS - 1));
            return out;
        }

        private int shiftBypass(int bit) {
            int out = bypassBit;
            bypassBit = bit;
            return out;
        }

        private int shiftCode(int bit) {
            int out = codeInRegister & 1;
            codeInRegister = (codeInRegister >>> 1) | (bit << (CODE_BITS - 1));
            return out;
        }

        private void updateData() {
            if (register() == OF_CELLS) {
                cells.update();
            }
        }

        int stepUntil(int goal) {
            measureTicks(goal);
            int ticks = ticksFrom[state];
            for (int done = 0; done < ticks; done++) {
                step(shortestMode(), 0);
            }
            return ticks;
        }

        private int shortestMode() {
            return ticksFrom[NEXT[2 * state]] < ticksFrom[state] ? 0 : 1;
        }

        private void measureTicks(int goal) {
            for (int from = 0; from < STATES; from++) {
                ticksFrom[from] = from == goal ? 0 : STATES;
            }
            // Each round settles at least one state more, so as many rounds as states are enough.
            for (int round = 0; round < STATES; round++) {
                for (int from = 0; from < STATES; from++) {
                    int behind = Math.min(ticksFrom[NEXT[2 * from]], ticksFrom[NEXT[2 * from + 1]]);
                    ticksFrom[from] = Math.min(ticksFrom[from], behind + 1);
                }
            }
        }
    }
}
