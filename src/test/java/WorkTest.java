/** Promise 3: work, by rows written out by hand from the document. */
final class WorkTest {
    private static final int WIDE = 0;
    private static final int SLIM = 1;
    private static final long LEAST = Due.LEAST;
    private static final long GREATEST = Due.GREATEST;
    private static final long NARROW = Due.NARROW;
    // instruction, narrow or not, x.low, x.high, y.low, y.high, the outcome's low, its high
    private static final long[][] ROWS = {
        {0, WIDE, 1, 2, -3, 4, -3, 4}, {0, WIDE, 1, 2, -3, -3, -3, -3},
        {0, SLIM, 1, 2, -3, -3, 0xfffffffdL, 0xfffffffdL}, {0, SLIM, 1, 2, -3, 4, 0, NARROW},
        {0, SLIM, 1, 2, 3, NARROW, 3, NARROW}, {0, SLIM, 1, 2, 3, NARROW + 1, 0, NARROW},

        {1, WIDE, -5, 9, 3, 4, -2, 13}, {1, WIDE, GREATEST, GREATEST, 1, 1, LEAST, LEAST},
        {1, WIDE, 0, GREATEST, 0, 1, LEAST, GREATEST}, {1, WIDE, 0, GREATEST - 1, 0, 1, 0, GREATEST},
        {1, WIDE, LEAST, 0, -1, 0, LEAST, GREATEST}, {1, WIDE, LEAST, 0, 0, 1, LEAST, 1},
        {1, SLIM, 0, 9, 1, NARROW - 9, 1, NARROW}, {1, SLIM, 0, 9, 1, NARROW - 8, 0, NARROW},
        {1, SLIM, 1, 9, -1, -1, 0, NARROW}, {1, SLIM, 1, 9, 0x100000001L, 0x100000001L, 2, 10},

        {2, WIDE, -5, 9, 3, 4, -9, 6}, {2, WIDE, LEAST, 0, 0, 1, LEAST, GREATEST},
        {2, WIDE, -1, 0, LEAST, 0, LEAST, GREATEST}, {2, WIDE, -2, -1, LEAST, 0, -2, GREATEST},
        {2, SLIM, 5, 9, 1, 5, 0, 8}, {2, SLIM, 5, 9, 1, 6, 0, NARROW},

        {3, WIDE, -5, 9, 3, 4, -20, 36}, {3, WIDE, -5, 3, -7, 2, -21, 35}, {3, WIDE, LEAST, 0, 0, 1, LEAST, 0},
        {3, WIDE, LEAST, 0, -1, 0, LEAST, GREATEST}, {3, WIDE, -1, 0, LEAST, 0, LEAST, GREATEST},
        {3, WIDE, LEAST, GREATEST, 0, 0, 0, 0}, {3, WIDE, LEAST + 1, GREATEST, -1, -1, LEAST + 1, GREATEST},
        {3, WIDE, LEAST, GREATEST, -1, -1, LEAST, GREATEST}, {3, WIDE, 1, 0x4000000000000000L, -2, -2, LEAST, -2},
        {3, WIDE, 1, 0x4000000000000000L, 2, 2, LEAST, GREATEST},
        {3, SLIM, 0, NARROW, 0, NARROW, 0, NARROW}, {3, SLIM, 2, 0xffff, 3, 0x10001, 6, NARROW},
        {3, SLIM, 2, 0x10000, 3, 0x10000, 0, NARROW}, {3, SLIM, -5, 9, 0x300000000L, 0x300000000L, 0, 0},

        {4, WIDE, 10, 99, 2, 5, 2, 49}, {4, WIDE, 10, 99, 0, 5, 0, 99}, {4, WIDE, 10, 99, 0, 0, 0, 99},
        {4, WIDE, -1, 99, 2, 5, LEAST, GREATEST}, {4, WIDE, 10, 99, -1, 5, LEAST, GREATEST},
        {4, WIDE, 0, 99, 1, 5, 0, 99}, {4, WIDE, 10, 99, GREATEST, GREATEST, 0, 0},
        {4, SLIM, -5, 9, 3, 4, 0, 1431655765}, {4, SLIM, 10, 99, -1, -1, 0, 0}, {4, SLIM, 10, 99, -1, 5, 0, 99},

        {5, WIDE, 10, 99, 2, 5, 0, 4}, {5, WIDE, 0, 3, 2, 50, 0, 3}, {5, WIDE, 10, 99, 0, 5, 0, 99},
        {5, WIDE, 10, 99, 1, 1, 0, 0}, {5, WIDE, -1, 99, 2, 5, LEAST, GREATEST},
        {5, WIDE, 10, 99, -1, 5, LEAST, GREATEST}, {5, WIDE, 10, 99, 0, 0, 0, 99},
        {5, SLIM, -5, 9, 3, 4, 0, 3}, {5, SLIM, 10, 99, 0x100000000L, 0x100000000L, 0, 99},

        {6, WIDE, 3, 9, 5, 20, 0, 9}, {6, WIDE, 3, 30, 5, 20, 0, 20}, {6, WIDE, -3, 30, 5, 20, 0, 20},
        {6, WIDE, 3, 30, -5, 20, 0, 30}, {6, WIDE, -3, 30, -5, 20, LEAST, GREATEST}, {6, WIDE, -3, 30, 0, 0, 0, 0},
        {6, SLIM, -3, 30, -5, 20, 0, NARROW}, {6, SLIM, -3, 30, 0x700000005L, 0x700000005L, 0, 5},

        {7, WIDE, 3, 9, 5, 20, 5, 31}, {7, WIDE, 6, 16, 5, 5, 6, 31}, {7, WIDE, 6, 15, 5, 5, 6, 15},
        {7, WIDE, 0, 0, 0, 1, 0, 1}, {7, WIDE, 0, GREATEST, 4, 5, 4, GREATEST},
        {7, WIDE, 0, 0x4000000000000000L, 4, 5, 4, GREATEST}, {7, WIDE, -1, 9, 5, 20, LEAST, GREATEST},
        {7, WIDE, 3, 9, -1, 20, LEAST, GREATEST}, {7, SLIM, -1, 9, 5, 20, 5, NARROW},

        {8, WIDE, 3, 9, 5, 20, 0, 31}, {8, WIDE, 3, 7, 8, 9, 0, 15}, {8, WIDE, 0, 0, 0, 1, 0, 1},
        {8, WIDE, -1, 9, 5, 20, LEAST, GREATEST}, {8, WIDE, 3, 9, -1, 20, LEAST, GREATEST},
        {8, SLIM, -1, 9, 5, 20, 0, NARROW}, {8, SLIM, 3, 9, 0x100000010L, 0x100000010L, 0, 31},

        {9, WIDE, 3, 9, 4, 4, 48, 144}, {9, WIDE, 3, 9, 64, 64, 3, 9}, {9, WIDE, 3, 9, 4, 5, LEAST, GREATEST},
        {9, WIDE, -1, 9, 4, 4, LEAST, GREATEST}, {9, WIDE, 0, 1, 62, 62, 0, 0x4000000000000000L},
        {9, WIDE, 0, 1, 63, 63, LEAST, GREATEST}, {9, WIDE, 0, GREATEST, 1, 1, LEAST, GREATEST},
        {9, WIDE, -1, 9, 0, 0, LEAST, GREATEST}, {9, WIDE, 0, GREATEST, -64, -64, 0, GREATEST},
        {9, SLIM, 3, 9, 32, 32, 3, 9}, {9, SLIM, 0, 1, 31, 31, 0, 0x80000000L}, {9, SLIM, 0, 2, 31, 31, 0, NARROW},
        {9, SLIM, 3, 9, 36, 36, 48, 144}, {9, SLIM, -1, 9, 0, 0, 0, NARROW},

        {10, WIDE, 8, 99, 2, 2, 2, 24}, {10, WIDE, -8, 99, 2, 2, 0, 0x3fffffffffffffffL},
        {10, WIDE, -8, 99, 64, 64, -8, 99}, {10, WIDE, -8, -4, 63, 63, 0, 1}, {10, WIDE, 8, 99, 2, 3, 0, 99},
        {10, WIDE, -8, 99, 2, 3, LEAST, GREATEST}, {10, WIDE, 8, 99, 0, 0, 8, 99}, {10, WIDE, -8, 99, 0, 0, -8, 99},
        {10, SLIM, -8, 99, 4, 4, 0, 0x0fffffffL}, {10, SLIM, 8, 99, 34, 34, 2, 24}, {10, SLIM, 8, 99, 2, 3, 0, 99},

        {11, WIDE, -8, 99, 2, 2, -2, 24}, {11, WIDE, LEAST, GREATEST, 63, 63, -1, 0},
        {11, WIDE, -8, 99, 64, 64, -8, 99}, {11, WIDE, 8, 99, 2, 3, 0, 99}, {11, WIDE, -8, 99, 2, 3, LEAST, GREATEST},
        {11, SLIM, 8, 99, 2, 2, 0, NARROW}, {11, SLIM, 8, 99, 0, 0, 0, NARROW},
        {11, SLIM, -8, -8, 2, 2, 0xfffffffeL, 0xfffffffeL}, {11, SLIM, 8, 8, 2, 3, 0, NARROW},

        {12, WIDE, -5, 9, 3, 4, -9, 5}, {12, WIDE, LEAST, 9, 3, 4, LEAST, GREATEST},
        {12, WIDE, LEAST + 1, 9, 3, 4, -9, GREATEST}, {12, WIDE, LEAST, LEAST, 3, 4, LEAST, LEAST},
        {12, WIDE, 7, 7, 3, 4, -7, -7}, {12, SLIM, 5, 9, 3, 3, 0, NARROW}, {12, SLIM, 5, 5, 3, 4, 0xfffffffbL, 0xfffffffbL}
    };

    public static void main(String[] args) {
        Due due = new Due();
        for (long[] row : ROWS) {
            lookAtRow(due, row);
        }
        takesOneRangeTwice(due);
        refuses(due);
        due.end();
    }

    private static void lookAtRow(Due due, long[] row) {
        boolean narrow = row[1] == SLIM;
        String call = "work(.., " + row[0] + ", " + row[2] + " .. " + row[3] + ", " + row[4] + " .. " + row[5]
            + ", " + narrow + ")";
        int[][] places = {{2, 0, 1}, {0, 0, 1}, {1, 0, 1}, {15, 14, 3}};
        for (int[] place : places) {
            RangeBox box = new RangeBox();
            box.put(place[1], row[2], row[3]);
            box.put(place[2], row[4], row[5]);
            box.work(place[0], (int) row[0], place[1], place[2], narrow);
            due.range(call, box, place[0], row[6], row[7]);
            if (place[0] != place[1]) {
                due.range(call + " keeps x", box, place[1], row[2], row[3]);
            }
            if (place[0] != place[2]) {
                due.range(call + " keeps y", box, place[2], row[4], row[5]);
            }
        }
    }

    private static void takesOneRangeTwice(Due due) {
        RangeBox box = new RangeBox();
        box.put(4, 2, 5);
        box.work(5, 2, 4, 4, false);
        due.range("x less x", box, 5, -3, 3);
        box.work(4, 3, 4, 4, false);
        due.range("x is x times x", box, 4, 4, 25);
        box.work(4, 8, 4, 4, true);
        due.range("x is x xor x", box, 4, 0, 31);
    }

    private static void refuses(Due due) {
        RangeBox box = new RangeBox();
        for (int k = 0; k < 16; k++) {
            box.put(k, k, 2 * k);
        }
        for (int none : new int[] {-1, 16, Integer.MIN_VALUE, Integer.MAX_VALUE}) {
            for (int instruction = 0; instruction < 13; instruction++) {
                int i = instruction;
                due.bad("work(" + none + ", " + i + ", 1, 2)", () -> box.work(none, i, 1, 2, false));
                due.bad("work(3, " + i + ", " + none + ", 2)", () -> box.work(3, i, none, 2, false));
                due.bad("work(3, " + i + ", 1, " + none + ")", () -> box.work(3, i, 1, none, true));
            }
        }
        for (int none : new int[] {-1, 13, Integer.MIN_VALUE, Integer.MAX_VALUE}) {
            due.bad("work(3, " + none + ", 1, 2, false)", () -> box.work(3, none, 1, 2, false));
            due.bad("work(3, " + none + ", 1, 2, true)", () -> box.work(3, none, 1, 2, true));
        }
        for (int k = 0; k < 16; k++) {
            due.range("after bad work", box, k, k, 2 * k);
        }
    }
}
