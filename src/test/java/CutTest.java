/** Promise 5: cut, by rows written out by hand from the document. */
final class CutTest {
    private static final long LEAST = Due.LEAST;
    private static final long GREATEST = Due.GREATEST;
    // condition, x.low, x.high, y.low, y.high, then the four ends after the cut; a row without these fails
    private static final long[][] ROWS = {
        {0, 0, 10, 5, 20, 5, 10, 5, 10}, {0, 0, 10, 10, 20, 10, 10, 10, 10}, {0, 0, 10, 11, 20},
        {0, -5, 5, 2, 2, 2, 2, 2, 2}, {0, -5, 5, 6, 6}, {0, 4, 4, 4, 4, 4, 4, 4, 4}, {0, 4, 4, 5, 5},
        {0, LEAST, GREATEST, -1, 1, -1, 1, -1, 1},

        {1, 0, 10, 5, 20, 0, 10, 5, 20}, {1, 0, 10, 0, 0, 1, 10, 0, 0}, {1, 0, 10, 10, 10, 0, 9, 10, 10},
        {1, 0, 10, 5, 5, 0, 10, 5, 5}, {1, 0, 10, 11, 11, 0, 10, 11, 11}, {1, 7, 7, 7, 8, 7, 7, 8, 8},
        {1, 8, 8, 7, 8, 8, 8, 7, 7}, {1, 4, 4, 4, 4}, {1, 4, 4, 5, 5, 4, 4, 5, 5}, {1, 0, 10, 0, 10, 0, 10, 0, 10},
        {1, LEAST, GREATEST, LEAST, LEAST, LEAST + 1, GREATEST, LEAST, LEAST},
        {1, GREATEST, GREATEST, LEAST, GREATEST, GREATEST, GREATEST, LEAST, GREATEST - 1},

        {2, 0, 10, 5, 20, 0, 10, 5, 20}, {2, 5, 20, 0, 10, 5, 9, 6, 10}, {2, 5, 20, 0, 5}, {2, 5, 20, 0, 6, 5, 5, 6, 6},
        {2, -3, 10, 2, 8, 0, 7, 2, 8}, {2, -3, 4, 2, 8, 0, 4, 2, 8}, {2, -3, 4, 0, 0}, {2, -3, -1, 2, 8},
        {2, -3, 4, -1, 8, -3, 4, -1, 8}, {2, 2, 4, -1, 8, 2, 4, -1, 8}, {2, -3, -3, 2, 8}, {2, 5, 6, -3, -3, 5, 6, -3, -3},
        {2, 0, GREATEST, 0, GREATEST, 0, GREATEST - 1, 1, GREATEST}, {2, GREATEST, GREATEST, 0, GREATEST},
        {2, LEAST, GREATEST, 3, GREATEST, 0, GREATEST - 1, 3, GREATEST}, {2, 3, 3, -1, -1, 3, 3, -1, -1},
        {2, -1, -1, 3, 3}, {2, 0, 4, 0, 0}, {2, -3, 4, 1, 1, 0, 0, 1, 1},

        {3, 0, 10, 5, 20, 0, 10, 5, 20}, {3, 5, 20, 0, 10, 5, 10, 5, 10}, {3, 5, 20, 0, 5, 5, 5, 5, 5},
        {3, 5, 20, 0, 4}, {3, -3, 10, 2, 8, 0, 8, 2, 8}, {3, -3, 4, 0, 0, 0, 0, 0, 0}, {3, -3, -1, 2, 8},
        {3, -3, 4, -1, 8, -3, 4, -1, 8}, {3, 2, 4, -1, 8, 2, 4, -1, 8}, {3, GREATEST, GREATEST, 0, GREATEST, GREATEST,
            GREATEST, GREATEST, GREATEST},

        {4, 5, 20, 0, 10, 5, 20, 0, 10}, {4, 0, 10, 5, 20, 6, 10, 5, 9}, {4, 2, 8, -3, 10, 2, 8, 0, 7},
        {4, 0, 0, -3, 4}, {4, -1, 8, -3, 4, -1, 8, -3, 4}, {4, -1, 8, 2, 4, -1, 8, 2, 4}, {4, -1, -1, 3, 3, -1, -1, 3, 3},

        {5, 5, 20, 0, 10, 5, 20, 0, 10}, {5, 0, 10, 5, 20, 5, 10, 5, 10}, {5, 2, 8, -3, 10, 2, 8, 0, 8},
        {5, 0, 0, -3, 4, 0, 0, 0, 0}, {5, -1, 8, -3, 4, -1, 8, -3, 4}, {5, 3, 4, 5, 6},

        {6, 0, 10, 5, 20, 0, 10, 5, 20}, {6, 5, 20, 0, 10, 5, 9, 6, 10}, {6, -5, 20, -9, 10, -5, 9, -4, 10},
        {6, 5, 20, 0, 5}, {6, LEAST, 0, LEAST, 0, LEAST, -1, LEAST + 1, 0}, {6, LEAST, 0, LEAST, LEAST},
        {6, GREATEST, GREATEST, 0, GREATEST}, {6, LEAST, GREATEST, LEAST, GREATEST, LEAST, GREATEST - 1, LEAST + 1,
            GREATEST}, {6, -3, -3, 2, 8, -3, -3, 2, 8}, {6, 3, 3, -1, -1}, {6, -1, -1, 3, 3, -1, -1, 3, 3},
        {6, -3, 4, -4, -3}, {6, -3, 4, -4, -2, -3, -3, -2, -2},

        {7, 5, 20, 0, 10, 5, 10, 5, 10}, {7, 5, 20, 0, 5, 5, 5, 5, 5}, {7, 5, 20, 0, 4},
        {7, LEAST, 0, LEAST, LEAST, LEAST, LEAST, LEAST, LEAST}, {7, GREATEST, GREATEST, 0, GREATEST, GREATEST, GREATEST,
            GREATEST, GREATEST}, {7, -5, 20, -9, 10, -5, 10, -5, 10},

        {8, 0, 10, 5, 20, 6, 10, 5, 9}, {8, 0, 5, 5, 20}, {8, LEAST, LEAST, LEAST, 0}, {8, 0, GREATEST, GREATEST, GREATEST},
        {8, -9, 10, -5, 20, -4, 10, -5, 9},

        {9, 0, 10, 5, 20, 5, 10, 5, 10}, {9, 0, 5, 5, 20, 5, 5, 5, 5}, {9, 0, 4, 5, 20}, {9, -9, 10, -5, 20, -5, 10, -5, 10},

        {10, 0, 10, 5, 20, 0, 10, 5, 20}, {10, 0, 0, 5, 20, 0, 0, 5, 20}, {10, 8, 8, 7, 7}, {10, 8, 8, 9, 9, 8, 8, 9, 9}
    };
    // The contrary of each condition but the last one, which has none among the eleven.
    private static final int[] CONTRARY = {1, 0, 5, 4, 3, 2, 9, 8, 7, 6};

    public static void main(String[] args) {
        Due due = new Due();
        for (long[] row : ROWS) {
            int condition = (int) row[0];
            look(due, condition, true, row);
            if (condition < 10) {
                look(due, CONTRARY[condition], false, row);
            }
        }
        look(due, 10, false, new long[] {10, 0, 10, 5, 20, 0, 10, 5, 20});
        look(due, 10, false, new long[] {10, 8, 8, 7, 7, 8, 8, 7, 7});
        look(due, 10, false, new long[] {10, 8, 8, 9, 9});
        refuses(due);
        due.end();
    }

    private static void look(Due due, int condition, boolean holds, long[] row) {
        look(due, condition, holds, row, 0, 1);
        look(due, condition, holds, row, 15, 7);
    }

    private static void look(Due due, int condition, boolean holds, long[] row, int x, int y) {
        RangeBox box = new RangeBox();
        box.put(x, row[1], row[2]);
        box.put(y, row[3], row[4]);
        String call = "cut(" + condition + ", " + row[1] + " .. " + row[2] + ", " + row[3] + " .. " + row[4]
            + ", " + holds + ")";
        boolean cuts = row.length == 9;
        due.same(call, box.cut(condition, x, y, holds), cuts);
        due.range(call + " x", box, x, row[cuts ? 5 : 1], row[cuts ? 6 : 2]);
        due.range(call + " y", box, y, row[cuts ? 7 : 3], row[cuts ? 8 : 4]);
    }

    private static void refuses(Due due) {
        RangeBox box = new RangeBox();
        for (int k = 0; k < 16; k++) {
            box.put(k, -k, 2 * k);
        }
        for (int none : new int[] {-1, 16, Integer.MIN_VALUE, Integer.MAX_VALUE}) {
            due.bad("cut(0, " + none + ", 1, true)", () -> box.cut(0, none, 1, true));
            due.bad("cut(0, 1, " + none + ", true)", () -> box.cut(0, 1, none, true));
            due.bad("cut(10, " + none + ", 1, false)", () -> box.cut(10, none, 1, false));
        }
        for (int none : new int[] {-1, 11, Integer.MIN_VALUE, Integer.MAX_VALUE}) {
            due.bad("cut(" + none + ", 1, 2, true)", () -> box.cut(none, 1, 2, true));
            due.bad("cut(" + none + ", 1, 2, false)", () -> box.cut(none, 1, 2, false));
        }
        for (int condition = 0; condition < 11; condition++) {
            int c = condition;
            due.bad("cut(" + c + ", 4, 4, true)", () -> box.cut(c, 4, 4, true));
            due.bad("cut(" + c + ", 0, 0, false)", () -> box.cut(c, 0, 0, false));
        }
        for (int k = 0; k < 16; k++) {
            due.range("after bad cuts", box, k, -k, 2 * k);
        }
    }
}
