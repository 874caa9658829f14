/** What the tests share: comparing answers, counting the wrong ones, and ways through the port. */
final class Check {
    private static int wrong = 0;
    private static String sentence = "";

    private Check() {
    }

    /** The words of the document that the checks behind this hold; they are told with a wrong one. */
    static void says(String words) {
        sentence = words;
    }

    private static void tell(String what) {
        wrong++;
        System.out.println("\"" + sentence + "\": " + what);
    }

    static void due(String call, long got, long want) {
        if (got != want) {
            tell(call + " answered " + got + ", due is " + want);
        }
    }

    static void due(String call, boolean got, boolean want) {
        if (got != want) {
            tell(call + " answered " + got + ", due is " + want);
        }
    }

    static void due(String what, String got, String want) {
        if (!got.equals(want)) {
            tell(what + " is " + got + ", due is " + want);
        }
    }

    /** The class must be the very one: what the machine throws is often one below it. */
    static void refused(String call, Class<? extends RuntimeException> want, Runnable run) {
        String got = "nothing";
        try {
            run.run();
        } catch (RuntimeException e) {
            got = e.getClass().getName();
        }
        if (!got.equals(want.getName())) {
            tell(call + " threw " + got + ", due is " + want.getName());
        }
    }

    static void noIndex(String call, Runnable run) {
        refused(call, IndexOutOfBoundsException.class, run);
    }

    static void noArgument(String call, Runnable run) {
        refused(call, IllegalArgumentException.class, run);
    }

    static void full(String call, Runnable run) {
        refused(call, UnsupportedOperationException.class, run);
    }

    static void end() {
        if (wrong != 0) {
            System.out.println(wrong + " answers are not as due");
            System.exit(1);
        }
    }

    /** A new object with latches of one clock in a line, one step apart, in no chain. */
    static ScanRows inLine(int latches) {
        ScanRows rows = new ScanRows(0);
        for (int i = 0; i < latches; i++) {
            rows.latch(0, i, 0);
        }
        return rows;
    }

    /** A new object with cells, a digit for the kind of each. */
    static ScanRows withCells(String kinds) {
        ScanRows rows = new ScanRows(0);
        for (int i = 0; i < kinds.length(); i++) {
            rows.port(kinds.charAt(i) - '0');
        }
        return rows;
    }

    /** Loads latches 0, 1, .. with a digit each. */
    static void load(ScanRows rows, String digits) {
        for (int latch = 0; latch < digits.length(); latch++) {
            rows.load(latch, digits.charAt(latch) - '0');
        }
    }

    /** Sets what is at the pins of cells 0, 1, .., a digit each. */
    static void pins(ScanRows rows, String digits) {
        for (int cell = 0; cell < digits.length(); cell++) {
            rows.pin(cell, digits.charAt(cell) - '0');
        }
    }

    /** Ticks with bit 0, a digit for each mode. */
    static void walk(ScanRows rows, String modes) {
        for (int i = 0; i < modes.length(); i++) {
            rows.tick(modes.charAt(i) - '0', 0);
        }
    }

    /** From RESET, IDLE, or an update: a new code, and the port in IDLE. */
    static void code(ScanRows rows, int code) {
        walk(rows, "01100");
        for (int i = 0; i < 4; i++) {
            rows.tick(i == 3 ? 1 : 0, code >> i & 1);
        }
        walk(rows, "10");
        due("the state behind a new code", rows.state(), 1);
        due("the new code", rows.count(4), code);
    }

    /** From IDLE: through CAPTURE DATA to SHIFT DATA. */
    static void capture(ScanRows rows) {
        walk(rows, "100");
        due("the state behind a capture", rows.state(), 4);
    }

    /** From IDLE: capture, shift bits in and update; the port is in IDLE again. */
    static void write(ScanRows rows, String bits) {
        capture(rows);
        for (int i = 0; i < bits.length(); i++) {
            rows.tick(i == bits.length() - 1 ? 1 : 0, bits.charAt(i) - '0');
        }
        walk(rows, "10");
        due("the state behind an update", rows.state(), 1);
    }

    /** In a shifting state: bits go in, and what comes out is due; the port stays there. */
    static void bits(String what, ScanRows rows, String in, String want) {
        StringBuilder out = new StringBuilder();
        for (int i = 0; i < in.length(); i++) {
            out.append(rows.tick(0, in.charAt(i) - '0'));
        }
        due("what came out, " + what + ",", out.toString(), want);
    }

    /** The values of latches 0, 1, .., a digit each. */
    static void values(String what, ScanRows rows, String want) {
        StringBuilder got = new StringBuilder();
        for (int latch = 0; latch < want.length(); latch++) {
            got.append(rows.value(latch));
        }
        due("the values, " + what + ",", got.toString(), want);
    }

    /** What is driven at cells 0, 1, .., a digit each. */
    static void driven(String what, ScanRows rows, String want) {
        StringBuilder got = new StringBuilder();
        for (int cell = 0; cell < want.length(); cell++) {
            got.append(rows.boundary(cell));
        }
        due("what is driven, " + what + ",", got.toString(), want);
    }

    /** The chains as a text: places with blanks between them, chains with bars. */
    static String chains(ScanRows rows) {
        StringBuilder text = new StringBuilder();
        int chains = rows.count(1);
        for (int chain = 0; chain < chains; chain++) {
            text.append(chain == 0 ? "" : "|");
            int latch = rows.at(chain, 0);
            for (int k = 1; latch != ScanRows.NONE && k <= 32; k++) {
                text.append(k == 1 ? "" : " ").append(latch);
                latch = rows.at(chain, k);
            }
        }
        return text.toString();
    }

    static void chains(String what, ScanRows rows, String want) {
        due("the chains, " + what + ",", chains(rows), want);
    }

    /** The broken rules as a text, sort:latch each, by both whats. */
    static String rules(ScanRows rows) {
        StringBuilder text = new StringBuilder();
        for (int k = 0; k <= 64 && rows.rule(k, 0) != ScanRows.NONE; k++) {
            text.append(k == 0 ? "" : " ").append(rows.rule(k, 0)).append(':').append(rows.rule(k, 1));
        }
        return text.toString();
    }

    static void rules(String what, ScanRows rows, String want) {
        due("the rules, " + what + ",", rules(rows), want);
    }
}
