/** Looks at cuts: by the condition, by the contrary of its contrary, and both once more with x and y changed about. */
final class CutRows {
    // The last condition has no contrary among the eleven.
    private static final int[] CONTRARY = {1, 0, 5, 4, 3, 2, 9, 8, 7, 6};
    private static final int[] CHANGED_ABOUT = {0, 1, 4, 5, 2, 3, 8, 9, 6, 7, 10};

    private final Due due;

    CutRows(Due due) {
        this.due = due;
    }

    /** Each row: x.low, x.high, y.low, y.high, then the four once more as they are after the cut. */
    void cut(int condition, long[][] rows) {
        for (long[] row : rows) {
            look(condition, row, true, new long[] {row[4], row[5], row[6], row[7]});
        }
    }

    /** Each row: x.low, x.high, y.low, y.high; nothing is cut, and it does not fail. */
    void stay(int condition, long[][] rows) {
        for (long[] row : rows) {
            look(condition, row, true, row);
        }
    }

    /** Each row: x.low, x.high, y.low, y.high; the cut fails. */
    void fail(int condition, long[][] rows) {
        for (long[] row : rows) {
            look(condition, row, false, row);
        }
    }

    private void look(int condition, long[] row, boolean answer, long[] after) {
        lookBothWays(condition, true, row, answer, after);
        if (condition < CONTRARY.length) {
            lookBothWays(CONTRARY[condition], false, row, answer, after);
        }
    }

    private void lookBothWays(int condition, boolean holds, long[] row, boolean answer, long[] after) {
        look(condition, holds, row, answer, after);
        look(CHANGED_ABOUT[condition], holds, changedAbout(row), answer, changedAbout(after));
    }

    private static long[] changedAbout(long[] row) {
        return new long[] {row[2], row[3], row[0], row[1]};
    }

    /** Looks at one cut alone, the two ranges standing in two pairs of places, and at the ranges beside them. */
    void look(int condition, boolean holds, long[] row, boolean answer, long[] after) {
        look(condition, holds, row, answer, after, 0, 1);
        look(condition, holds, row, answer, after, 15, 7);
    }

    private void look(int condition, boolean holds, long[] row, boolean answer, long[] after, int x, int y) {
        RangeBox box = new RangeBox();
        for (int k = 0; k < 16; k++) {
            box.put(k, k, 2 * k);
        }
        box.put(x, row[0], row[1]);
        box.put(y, row[2], row[3]);
        String call = "cut(" + condition + ", " + row[0] + " .. " + row[1] + ", " + row[2] + " .. " + row[3]
            + ", " + holds + ")";
        due.same(call, box.cut(condition, x, y, holds), answer);
        due.range(call + " x", box, x, after[0], after[1]);
        due.range(call + " y", box, y, after[2], after[3]);
        for (int k = 0; k < 16; k++) {
            if (k != x && k != y) {
                due.range(call + " the others", box, k, k, 2 * k);
            }
        }
    }
}
