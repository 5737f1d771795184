/** Promises 3 and 4 at the edges of DIV and MOD without sign, by rows written out by hand. */
final class DivideTest {
    private static final int DIV = Codes.DIV;
    private static final int MOD = Codes.MOD;
    private static final long LEAST = Due.LEAST;
    private static final long GREATEST = Due.GREATEST;
    private static final long NARROW = Due.NARROW;

    // x, y, DIV wide, MOD wide, DIV narrow, MOD narrow
    private static final long[][] BY_0 = {
        {0, 0, 0, 0, 0, 0}, {7, 0, 0, 7, 0, 7}, {-7, 0, 0, -7, 0, 0xfffffff9L}, {-1, 0, 0, -1, 0, NARROW},
        {LEAST, 0, 0, LEAST, 0, 0}, {GREATEST, 0, 0, GREATEST, 0, NARROW},
        {7, 0x100000000L, 0, 7, 0, 7}, {-1, 0x100000000L, NARROW, NARROW, 0, NARROW}
    };
    private static final long[][] BY_1 = {
        {0, 1, 0, 0, 0, 0}, {1, 1, 1, 0, 1, 0}, {7, 1, 7, 0, 7, 0}, {-7, 1, -7, 0, 0xfffffff9L, 0},
        {-1, 1, -1, 0, NARROW, 0}, {LEAST, 1, LEAST, 0, 0, 0}, {LEAST + 1, 1, LEAST + 1, 0, 1, 0},
        {GREATEST, 1, GREATEST, 0, NARROW, 0}, {7, 0x100000001L, 0, 7, 7, 0},
        {-1, 0x100000001L, NARROW, 0, NARROW, 0}
    };
    private static final long[][] BY_THE_GREATEST_WITHOUT_SIGN = {
        {0, -1, 0, 0, 0, 0}, {7, -1, 0, 7, 0, 7}, {-7, -1, 0, -7, 0, 0xfffffff9L}, {-2, -1, 0, -2, 0, 0xfffffffeL},
        {-1, -1, 1, 0, 1, 0}, {LEAST, -1, 0, LEAST, 0, 0}, {GREATEST, -1, 0, GREATEST, 1, 0},
        {NARROW, -1, 0, NARROW, 1, 0}, {-1, NARROW, 0x100000001L, 0, 1, 0}
    };
    private static final long[][] BELOW_EQUAL_ABOVE = {
        {9, 10, 0, 9, 0, 9}, {10, 10, 1, 0, 1, 0}, {11, 10, 1, 1, 1, 1}, {19, 10, 1, 9, 1, 9}, {20, 10, 2, 0, 2, 0},
        {-6, -5, 0, -6, 0, 0xfffffffaL}, {-5, -5, 1, 0, 1, 0}, {-4, -5, 1, 1, 1, 1},
        {GREATEST - 1, GREATEST, 0, GREATEST - 1, 0, 0xfffffffeL}, {GREATEST, GREATEST, 1, 0, 1, 0},
        {LEAST, GREATEST, 1, 1, 0, 0},
        {GREATEST, LEAST, 0, GREATEST, 0, NARROW}, {LEAST, LEAST, 1, 0, 0, 0}, {LEAST + 1, LEAST, 1, 1, 0, 1},
        {LEAST, LEAST + 1, 0, LEAST, 0, 0}, {LEAST + 1, LEAST + 1, 1, 0, 1, 0}, {LEAST + 2, LEAST + 1, 1, 1, 2, 0},
        {0x7fffffffL, 0x80000000L, 0, 0x7fffffffL, 0, 0x7fffffffL}, {0x80000000L, 0x80000000L, 1, 0, 1, 0},
        {0x80000001L, 0x80000000L, 1, 1, 1, 1}, {0x500000009L, 0x30000000aL, 1, 0x1ffffffffL, 0, 9}
    };
    private static final long[][] X_BELOW_0 = {
        {-1, 2, GREATEST, 1, 0x7fffffffL, 1}, {-1, 3, 0x5555555555555555L, 0, 0x55555555L, 0},
        {-2, 3, 0x5555555555555554L, 2, 0x55555554L, 2}, {-1, 10, 1844674407370955161L, 5, 429496729, 5},
        {LEAST, 2, 0x4000000000000000L, 0, 0, 0}, {LEAST, 3, 0x2aaaaaaaaaaaaaaaL, 2, 0, 0},
        {-1, GREATEST, 2, 1, 1, 0}, {-2, GREATEST, 2, 0, 0, 0xfffffffeL},
        {-3, GREATEST, 1, GREATEST - 1, 0, 0xfffffffdL}, {-1, GREATEST - 1, 2, 3, 1, 1},
        {LEAST, GREATEST - 1, 1, 2, 0, 0}, {-1, 0x4000000000000000L, 3, 0x3fffffffffffffffL, 0, NARROW}
    };
    private static final long[][] Y_BELOW_0 = {
        {5, -3, 0, 5, 0, 5}, {0, -3, 0, 0, 0, 0}, {1, LEAST, 0, 1, 0, 1}, {GREATEST, -2, 0, GREATEST, 1, 1},
        {0, LEAST, 0, 0, 0, 0}, {0xfffffffeL, -3, 0, 0xfffffffeL, 1, 1}, {GREATEST, LEAST + 1, 0, GREATEST, NARROW, 0}
    };
    private static final long[][] BOTH_BELOW_0 = {
        {-1, -2, 1, 1, 1, 1}, {-7, -3, 0, -7, 0, 0xfffffff9L}, {-3, -7, 1, 4, 1, 4},
        {-1, LEAST, 1, GREATEST, 0, NARROW}, {-2, LEAST, 1, GREATEST - 1, 0, 0xfffffffeL},
        {-1, LEAST + 1, 1, GREATEST - 1, NARROW, 0}, {LEAST, -2, 0, LEAST, 0, 0}
    };

    // x.low, x.high, y.low, y.high, narrow (1) or not, DIV's low and high, MOD's low and high
    private static final long[][] RANGES = {
        {0, GREATEST, 1, 1, 0, 0, GREATEST, 0, 0}, {0, GREATEST, 1, GREATEST, 0, 0, GREATEST, 0, GREATEST - 1},
        {0, GREATEST, GREATEST, GREATEST, 0, 0, 1, 0, GREATEST - 1},
        {GREATEST, GREATEST, 1, GREATEST, 0, 1, GREATEST, 0, GREATEST - 1},
        {9, 11, 10, 10, 0, 0, 1, 0, 9}, {10, 10, 9, 11, 0, 0, 1, 0, 10}, {9, 11, 0, 0, 0, 0, 11, 0, 11},
        {9, 11, 0, 10, 0, 0, 11, 0, 11}, {0, 0, 0, 10, 0, 0, 0, 0, 0},
        {-1, -1, 1, 2, 0, LEAST, GREATEST, LEAST, GREATEST}, {-1, 9, 0, 0, 0, LEAST, GREATEST, LEAST, GREATEST},
        {5, 9, -1, -1, 0, LEAST, GREATEST, LEAST, GREATEST}, {-9, -5, -3, -2, 0, LEAST, GREATEST, LEAST, GREATEST},
        {LEAST, LEAST, 1, 2, 0, LEAST, GREATEST, LEAST, GREATEST},
        {1, 2, LEAST, LEAST, 0, LEAST, GREATEST, LEAST, GREATEST},
        {-1, -1, 1, 2, 1, 0x7fffffffL, NARROW, 0, 1}, {5, 9, -1, -1, 1, 0, 0, 0, 9},
        {0, NARROW, -1, -1, 1, 0, 1, 0, 0xfffffffeL}, {5, 9, -1, 0, 1, 0, 9, 0, 9},
        {-9, -5, -3, -2, 1, 0, NARROW, 0, NARROW}, {-9, -5, 1, 1, 1, 0, NARROW, 0, 0},
        {5, 9, LEAST, LEAST, 1, 0, 9, 0, 9}, {LEAST, LEAST, 1, 2, 1, 0, 0, 0, 0},
        {GREATEST, GREATEST, 1, 2, 1, 0x7fffffffL, NARROW, 0, 1}, {5, 9, GREATEST, GREATEST, 1, 0, 0, 0, 9},
        {9, 11, 10, 10, 1, 0, 1, 0, 9}, {10, 10, 9, 11, 1, 0, 1, 0, 10}
    };

    public static void main(String[] args) {
        Due due = new Due();
        due.run(() -> dividesBy0(due));
        due.run(() -> dividesWithoutSign(due));
        due.run(() -> dividesRanges(due));
        due.end();
    }

    private static void dividesBy0(Due due) {
        due.stands("promises 3 and 4, work and exact", "DIV, MOD without sign, by 0: 0, and x");
        lookAtRows(due, BY_0);
    }

    private static void dividesWithoutSign(Due due) {
        due.stands("promises 3 and 4, work and exact", "DIV, MOD without sign");
        lookAtRows(due, BY_1);
        lookAtRows(due, BY_THE_GREATEST_WITHOUT_SIGN);
        lookAtRows(due, BELOW_EQUAL_ABOVE);
        lookAtRows(due, X_BELOW_0);
        lookAtRows(due, Y_BELOW_0);
        lookAtRows(due, BOTH_BELOW_0);
    }

    private static void dividesRanges(Due due) {
        due.stands("promise 3, work", "OUTCOMES of RANGES x and y");
        for (long[] row : RANGES) {
            lookAtRanges(due, DIV, row, row[5], row[6]);
            lookAtRanges(due, MOD, row, row[7], row[8]);
        }
    }

    private static void lookAtRows(Due due, long[][] rows) {
        for (long[] row : rows) {
            lookAtNumbers(due, DIV, row, false, row[2]);
            lookAtNumbers(due, MOD, row, false, row[3]);
            lookAtNumbers(due, DIV, row, true, row[4]);
            lookAtNumbers(due, MOD, row, true, row[5]);
        }
    }

    private static void lookAtNumbers(Due due, int instruction, long[] row, boolean narrow, long want) {
        String call = "(" + instruction + ", " + row[0] + ", " + row[1] + ", " + narrow + ")";
        RangeBox box = new RangeBox();
        due.same("exact" + call, box.exact(instruction, row[0], row[1], narrow), want);
        box.put(1, row[0], row[0]);
        box.put(2, row[1], row[1]);
        box.work(3, instruction, 1, 2, narrow);
        due.range("work" + call, box, 3, want, want);
    }

    private static void lookAtRanges(Due due, int instruction, long[] row, long low, long high) {
        boolean narrow = row[4] == 1;
        RangeBox box = new RangeBox();
        box.put(1, row[0], row[1]);
        box.put(2, row[2], row[3]);
        box.work(3, instruction, 1, 2, narrow);
        due.range("work(" + instruction + ", " + row[0] + " .. " + row[1] + ", " + row[2] + " .. " + row[3] + ", "
            + narrow + ")", box, 3, low, high);
    }
}
