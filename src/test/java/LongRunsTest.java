import java.util.Random;
import java.util.function.LongSupplier;

/** All promises: long runs of calls, with answers and exceptions as PlainRows has them. */
public final class LongRunsTest {
    private static final int RUNS = 1500;
    private static final int CALLS = 512;

    private final Random random;
    private final ScanRows rows;
    private final PlainRows plain;
    /** Places within so far, so that some runs have many latches that are equal. */
    private final int reach;
    private final int clocks;
    private final StringBuilder told = new StringBuilder();
    private int calls = 0;

    private LongRunsTest(long seed) {
        random = new Random(seed);
        int number = random.nextInt();
        rows = new ScanRows(number);
        plain = new PlainRows(number);
        reach = new int[] {1, 3, 20, 1000}[random.nextInt(4)];
        clocks = 1 + random.nextInt(4);
    }

    public static void main(String[] args) {
        for (long seed = 1; seed <= RUNS; seed++) {
            if (!new LongRunsTest(seed).run()) {
                System.out.println("in the run with seed " + seed);
                System.exit(1);
            }
        }
    }

    private boolean run() {
        // A new code takes seven calls, anything else one.
        while (calls < CALLS) {
            int which = random.nextInt(32);
            if (!one(calls + 7 > CALLS && which == 20 ? 21 : which)) {
                System.out.println(told);
                return false;
            }
        }
        return true;
    }

    private boolean same(String call, LongSupplier got, LongSupplier want) {
        calls++;
        String answer = answerOf(got);
        String due = answerOf(want);
        told.append(call).append(" -> ").append(answer).append('\n');
        if (!answer.equals(due)) {
            told.append("due is ").append(due);
        }
        return answer.equals(due);
    }

    private static String answerOf(LongSupplier call) {
        try {
            return Long.toString(call.getAsLong());
        } catch (RuntimeException e) {
            return e.getClass().getName();
        }
    }

    /** Mostly within 0 .. bound - 1, at times outside of it. */
    private int near(int bound) {
        int pick = random.nextInt(24);
        if (pick == 0) {
            return random.nextInt();
        }
        return pick == 1 ? -1 : random.nextInt(Math.max(bound, 1) + (pick == 2 ? 2 : 0));
    }

    private long place() {
        int pick = random.nextInt(60);
        return pick == 0 ? random.nextLong() : pick == 1 ? 1001 : pick == 2 ? -1001
                : random.nextInt(2 * reach + 1) - reach;
    }

    private boolean one(int which) {
        switch (which) {
            case 0:
            case 1: return latch();
            case 2: return make();
            case 3: return at();
            case 4: return lockUp();
            case 5: return same("travel()", rows::travel, plain::travel);
            case 6: return improve();
            case 7: return rule();
            case 8: return set();
            case 9:
            case 10: return load();
            case 11: return value();
            case 12: return shift();
            case 13: return port();
            case 14: return pin();
            case 15: return same("state()", rows::state, plain::state);
            case 16:
            case 17: return go();
            case 18: return boundary();
            case 19: return count();
            case 20: return newCode();
            default: return tick();
        }
    }

    private boolean latch() {
        int clock = random.nextInt(30) == 0 ? near(4) : random.nextInt(clocks);
        long x = place();
        long y = place();
        return same("latch(" + clock + ", " + x + ", " + y + ")",
                () -> rows.latch(clock, x, y), () -> plain.latch(clock, x, y));
    }

    private boolean make() {
        int n = near(9);
        return same("make(" + n + ")", () -> rows.make(n), () -> plain.make(n));
    }

    private boolean at() {
        int chain = near(plain.count(1));
        int k = near(10);
        return same("at(" + chain + ", " + k + ")", () -> rows.at(chain, k), () -> plain.at(chain, k));
    }

    private boolean lockUp() {
        int chain = near(plain.count(1));
        int k = near(10);
        return same("lockUp(" + chain + ", " + k + ")",
                () -> rows.lockUp(chain, k) ? 1 : 0, () -> plain.lockUp(chain, k) ? 1 : 0);
    }

    private boolean improve() {
        int steps = near(8);
        return same("improve(" + steps + ")", () -> rows.improve(steps), () -> plain.improve(steps));
    }

    private boolean rule() {
        int k = near(8);
        int what = near(2);
        return same("rule(" + k + ", " + what + ")", () -> rows.rule(k, what), () -> plain.rule(k, what));
    }

    private boolean set() {
        int latch = near(plain.count(0));
        boolean fromLogic = random.nextBoolean();
        return same("set(" + latch + ", " + fromLogic + ")",
                () -> rows.set(latch, fromLogic) ? 1 : 0, () -> plain.set(latch, fromLogic) ? 1 : 0);
    }

    private boolean load() {
        int latch = near(plain.count(0));
        int v = near(3);
        return same("load(" + latch + ", " + v + ")", () -> {
            rows.load(latch, v);
            return 0;
        }, () -> {
            plain.load(latch, v);
            return 0;
        });
    }

    private boolean value() {
        int latch = near(plain.count(0));
        return same("value(" + latch + ")", () -> rows.value(latch), () -> plain.value(latch));
    }

    private boolean shift() {
        int bits = random.nextInt();
        return same("shift(" + bits + ")", () -> rows.shift(bits), () -> plain.shift(bits));
    }

    private boolean port() {
        int kind = near(2);
        return same("port(" + kind + ")", () -> rows.port(kind), () -> plain.port(kind));
    }

    private boolean pin() {
        int cell = near(plain.count(2));
        int v = near(3);
        return same("pin(" + cell + ", " + v + ")", () -> {
            rows.pin(cell, v);
            return 0;
        }, () -> {
            plain.pin(cell, v);
            return 0;
        });
    }

    private boolean go() {
        int[] often = {4, 4, 8, 11, 1};
        int state = random.nextInt(3) == 0 ? near(16) : often[random.nextInt(often.length)];
        return same("go(" + state + ")", () -> rows.go(state), () -> plain.go(state));
    }

    private boolean boundary() {
        int cell = near(plain.count(2));
        return same("boundary(" + cell + ")", () -> rows.boundary(cell), () -> plain.boundary(cell));
    }

    private boolean count() {
        int what = near(5);
        return same("count(" + what + ")", () -> rows.count(what), () -> plain.count(what));
    }

    private boolean tick() {
        int mode = random.nextInt(12) == 0 ? near(2) : random.nextInt(4) == 0 ? 1 : 0;
        int bit = near(2);
        return same("tick(" + mode + ", " + bit + ")",
                () -> rows.tick(mode, bit), () -> plain.tick(mode, bit));
    }

    /** Codes that matter, set on the short way, as single ticks seldom come upon them. */
    private boolean newCode() {
        int code = random.nextInt(6) == 0 ? random.nextInt(16) : random.nextInt(4);
        boolean fine = same("go(11)", () -> rows.go(11), () -> plain.go(11));
        for (int i = 0; i < 4; i++) {
            int bit = code >> i & 1;
            int mode = i == 3 ? 1 : 0;
            fine &= same("tick(" + mode + ", " + bit + ")",
                    () -> rows.tick(mode, bit), () -> plain.tick(mode, bit));
        }
        fine &= same("go(1)", () -> rows.go(1), () -> plain.go(1));
        return fine & same("count(4)", () -> rows.count(4), () -> plain.count(4));
    }
}
