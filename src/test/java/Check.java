/** Counts the answers that were due and those that were not. */
final class Check {
    static final int BAD = -2, STATE = -3, FULL = -4;
    static final int MISSING = -11, OUTSIDE = -12, UNLIKE = -13, NEGATIVE = -14;

    private static int passed = 0;
    private static int failed = 0;

    private Check() {
    }

    static void due(String call, long got, long want) {
        if (got == want) {
            passed++;
            return;
        }
        failed++;
        System.out.println(call + " answered " + got + ", due is " + want);
    }

    static void same(String what, String got, String want) {
        if (!got.equals(want)) {
            System.out.println(what + " is '" + got + "', due is '" + want + "'");
        }
        due(what, got.equals(want) ? 1 : 0, 1);
    }

    /** Puts a whole text on THE TAPE. */
    static void feed(TandemKeepsAPlace x, String text) {
        for (int i = 0; i < text.length(); i++) {
            x.feed(text.charAt(i));
        }
    }

    /** What text() answers of that. */
    static int read(TandemKeepsAPlace x, String text) {
        feed(x, text);
        return x.text();
    }

    static void fill(TandemKeepsAPlace x, int sheet, int sort, int... items) {
        x.sheet(sheet, sort, items.length);
        for (int i = 0; i < items.length; i++) {
            x.cell(sheet, i, items[i]);
        }
    }

    static void end() {
        System.out.println(passed + " answers were due, " + failed + " were not");
        if (failed != 0) {
            System.exit(1);
        }
    }
}
