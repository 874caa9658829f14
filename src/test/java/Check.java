/** What the tests share: comparing answers, counting the wrong ones, and ways through the port. */
final class Check {
    private static int wrong = 0;

    private Check() {
    }

    static void due(String call, long got, long want) {
        if (got != want) {
            wrong++;
            System.out.println(call + " answered " + got + ", due is " + want);
        }
    }

    static void due(String call, boolean got, boolean want) {
        due(call, got ? 1 : 0, want ? 1 : 0);
    }

    /** The class must be the very one: what the machine throws is often one below it. */
    static void refused(String call, Class<? extends RuntimeException> want, Runnable run) {
        String got = "nothing";
        try {
            run.run();
        } catch (RuntimeException e) {
            got = e.getClass().getName();
        }
        if (!got.equals(want.getName())) {
            wrong++;
            System.out.println(call + " threw " + got + ", due is " + want.getName());
        }
    }

    static void noIndex(String call, Runnable run) {
        refused(call, IndexOutOfBoundsException.class, run);
    }

    static void noArgument(String call, Runnable run) {
        refused(call, IllegalArgumentException.class, run);
    }

    static void full(String call, Runnable run) {
        refused(call, UnsupportedOperationException.class, run);
    }

    static void end() {
        if (wrong != 0) {
            System.out.println(wrong + " answers are not as due");
            System.exit(1);
        }
    }

    /** Ticks with bit 0, a digit for each mode. */
    static void walk(ScanRows rows, String modes) {
        for (int i = 0; i < modes.length(); i++) {
            rows.tick(modes.charAt(i) - '0', 0);
        }
    }

    /** From RESET, IDLE, or an update: a new code, and the port in IDLE. */
    static void code(ScanRows rows, int code) {
        walk(rows, "01100");
        for (int i = 0; i < 4; i++) {
            rows.tick(i == 3 ? 1 : 0, code >> i & 1);
        }
        walk(rows, "10");
        due("the state behind a new code", rows.state(), 1);
        due("the new code", rows.count(4), code);
    }

    /** In a shifting state: bits go in, and what comes out is due; the port stays there. */
    static void bits(String what, ScanRows rows, String in, String want) {
        StringBuilder out = new StringBuilder();
        for (int i = 0; i < in.length(); i++) {
            out.append(rows.tick(0, in.charAt(i) - '0'));
        }
        if (!out.toString().equals(want)) {
            wrong++;
            System.out.println(what + " gave out " + out + ", due is " + want);
        }
    }

    /** The chains as a text: places with blanks between them, chains with bars. */
    static String chains(ScanRows rows) {
        StringBuilder text = new StringBuilder();
        for (int chain = 0; chain < rows.count(1); chain++) {
            text.append(chain == 0 ? "" : "|");
            for (int k = 0; rows.at(chain, k) != ScanRows.NONE; k++) {
                text.append(k == 0 ? "" : " ").append(rows.at(chain, k));
            }
        }
        return text.toString();
    }

    static void chains(String what, ScanRows rows, String want) {
        String got = chains(rows);
        if (!got.equals(want)) {
            wrong++;
            System.out.println(what + ": the chains are " + got + ", due is " + want);
        }
    }
}
