import java.util.ArrayList;
import java.util.LinkedHashMap;
import java.util.List;
import java.util.Map;
import java.util.function.Consumer;
import java.util.function.ToLongFunction;

/**
 * "A call that throws changes nothing": of two objects with the same run of calls, one has a
 * refused call before each of them; all answers must be the same. Each refused call has a run of
 * its own, so that no object has more calls than the document allows.
 */
public final class RefusedTest {
    private static final int CALLS = 512;

    private static final Map<String, Consumer<ScanRows>> REFUSED = new LinkedHashMap<>();
    private static final List<ToLongFunction<ScanRows>> RUN = new ArrayList<>();

    public static void main(String[] args) {
        Check.says("A call that throws changes nothing.");
        refusedCalls();
        theRun();
        Check.due("at most as many calls of one object", 3 * RUN.size() <= CALLS, true);
        REFUSED.forEach(RefusedTest::compare);
        Check.end();
    }

    private static void refusedCalls() {
        refused("latch(-1, 1, 1)", r -> r.latch(-1, 1, 1));
        refused("latch(4, 1, 1)", r -> r.latch(4, 1, 1));
        refused("latch(3, 1001, 1)", r -> r.latch(3, 1001, 1));
        refused("latch(3, 1, -1001)", r -> r.latch(3, 1, -1001));
        refused("make(0)", r -> r.make(0));
        refused("make(9)", r -> r.make(9));
        refused("at(8, 0)", r -> r.at(8, 0));
        refused("at(0, -1)", r -> r.at(0, -1));
        refused("lockUp(0, 32)", r -> r.lockUp(0, 32));
        refused("lockUp(-1, 0)", r -> r.lockUp(-1, 0));
        refused("improve(-1)", r -> r.improve(-1));
        refused("rule(-1, 0)", r -> r.rule(-1, 0));
        refused("rule(0, 2)", r -> r.rule(0, 2));
        refused("set(-1, true)", r -> r.set(-1, true));
        refused("set(next, true)", r -> r.set(r.count(0), true));
        refused("load(-1, 1)", r -> r.load(-1, 1));
        refused("load(next, 1)", r -> r.load(r.count(0), 1));
        refused("value(32)", r -> r.value(32));
        refused("port(2)", r -> r.port(2));
        refused("pin(-1, 1)", r -> r.pin(-1, 1));
        refused("pin(next, 1)", r -> r.pin(r.count(2), 1));
        refused("tick(2, 1)", r -> r.tick(2, 1));
        refused("tick(1, 2)", r -> r.tick(1, 2));
        refused("tick(0, -1)", r -> r.tick(0, -1));
        refused("go(-1)", r -> r.go(-1));
        refused("go(16)", r -> r.go(16));
        refused("boundary(20)", r -> r.boundary(20));
        refused("count(5)", r -> r.count(5));
    }

    private static void refused(String name, Consumer<ScanRows> call) {
        REFUSED.put(name, call);
    }

    private static void theRun() {
        latchesAndCells();
        chainsAndValues();
        codeAndCells(1, "1101");
        codeAndCells(0, "0110");
        chainsByThePort();
        fillUp();
    }

    private static void latchesAndCells() {
        int[][] places = {{0, 3, 8}, {0, 0, 9}, {0, 7, 3}, {0, 2, 1}, {1, 5, 5}, {2, -5, 5}};
        for (int[] p : places) {
            RUN.add(r -> r.latch(p[0], p[1], p[2]));
        }
        for (int kind : new int[] {0, 1, 1, 0}) {
            RUN.add(r -> r.port(kind));
        }
        RUN.add(r -> done(() -> r.pin(1, 1)));
        RUN.add(r -> done(() -> r.pin(3, 1)));
    }

    private static long done(Runnable call) {
        call.run();
        return 0;
    }

    private static void chainsAndValues() {
        RUN.add(r -> r.make(2));
        RUN.add(ScanRows::travel);
        RUN.add(r -> r.improve(1));
        RUN.add(r -> r.at(0, 1));
        RUN.add(r -> r.lockUp(1, 1) ? 1 : 0);
        RUN.add(r -> r.set(2, true) ? 1 : 0);
        RUN.add(r -> r.set(5, true) ? 1 : 0);
        RUN.add(r -> r.rule(1, 1));
        RUN.add(r -> done(() -> r.load(1, 1)));
        RUN.add(r -> done(() -> r.load(4, 1)));
        RUN.add(r -> r.shift(2));
        RUN.add(r -> r.shift(1));
        RUN.add(r -> r.improve(9));
        RUN.add(ScanRows::travel);
    }

    private static void ticks(String modes, String bits) {
        for (int i = 0; i < modes.length(); i++) {
            int mode = modes.charAt(i) - '0';
            int bit = bits.charAt(i) - '0';
            RUN.add(r -> r.tick(mode, bit));
        }
        RUN.add(ScanRows::state);
    }

    private static void newCode(int code) {
        RUN.add(r -> r.go(11));
        String bits = "" + (code & 1) + (code >> 1 & 1) + (code >> 2 & 1) + (code >> 3 & 1);
        ticks("0001", bits);
        ticks("10", "00");
        RUN.add(r -> r.count(4));
        RUN.add(r -> r.count(3));
    }

    /** With a pause in the middle, and with what is driven before the update and behind it. */
    private static void codeAndCells(int code, String bits) {
        newCode(code);
        RUN.add(r -> r.go(3));
        ticks("001", "0" + bits.substring(0, 2));
        ticks("00010", "11111");
        ticks("01", bits.substring(2));
        for (int cell = 0; cell < 4; cell++) {
            int it = cell;
            RUN.add(r -> r.boundary(it));
        }
        ticks("10", "11");
        for (int cell = 0; cell < 4; cell++) {
            int it = cell;
            RUN.add(r -> r.boundary(it));
        }
    }

    private static void chainsByThePort() {
        newCode(3);
        RUN.add(r -> r.go(4));
        ticks("0001", "1011");
        for (int latch = 0; latch < 6; latch++) {
            int it = latch;
            RUN.add(r -> r.value(it));
        }
        RUN.add(r -> r.go(0));
        RUN.add(r -> r.count(4));
    }

    /** What came last of all is as new: no refused call has left anything there. */
    private static void fillUp() {
        for (int i = 0; i < 3; i++) {
            RUN.add(r -> r.latch(0, 1, 1));
            RUN.add(r -> r.port(1));
        }
        for (int latch = 6; latch < 9; latch++) {
            int it = latch;
            RUN.add(r -> r.value(it));
            RUN.add(r -> r.set(it, false) ? 1 : 0);
        }
        for (int cell = 4; cell < 7; cell++) {
            int it = cell;
            RUN.add(r -> r.boundary(it));
        }
        RUN.add(r -> r.make(3));
        for (int place = 0; place < 9; place++) {
            int it = place;
            RUN.add(r -> r.at(it / 3, it % 3));
        }
        RUN.add(ScanRows::travel);
    }

    private static void compare(String name, Consumer<ScanRows> call) {
        ScanRows plain = new ScanRows(0x5A5A1234);
        ScanRows bothered = new ScanRows(0x5A5A1234);
        for (int i = 0; i < RUN.size(); i++) {
            boolean threw = false;
            try {
                call.accept(bothered);
            } catch (RuntimeException e) {
                threw = true;
            }
            Check.due(name + " throws before call " + i, threw, true);
            Check.due("call " + i + " behind " + name,
                    RUN.get(i).applyAsLong(bothered), RUN.get(i).applyAsLong(plain));
        }
    }
}
