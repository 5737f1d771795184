/** Promises 2, 7 and 8: put, low, high. */
final class PutTest {
    private static final int[] NO_RANGES = {-1, 16, 17, 32, Integer.MIN_VALUE, Integer.MAX_VALUE};
    private static final long[][] RANGES = {
        {0, 0}, {-5, 9}, {-9, -5}, {5, 9}, {-1, 0}, {0, 1}, {Due.LEAST, Due.LEAST}, {Due.GREATEST, Due.GREATEST},
        {Due.LEAST, Due.GREATEST}, {Due.LEAST, -1}, {0, Due.GREATEST}, {0x80000000L, 0xffffffffL}
    };

    public static void main(String[] args) {
        Due due = new Due();
        putsEachRange(due);
        putsEveryPlaceApart(due);
        refuses(due);
        due.end();
    }

    private static void putsEachRange(Due due) {
        RangeBox box = new RangeBox();
        for (long[] range : RANGES) {
            box.put(15, range[0], range[1]);
            due.range("put(15, " + range[0] + ", " + range[1] + ")", box, 15, range[0], range[1]);
        }
    }

    private static void putsEveryPlaceApart(Due due) {
        RangeBox box = new RangeBox();
        for (int k = 0; k < 16; k++) {
            box.put(k, k * 100L - 700, k * 1000L);
        }
        for (int k = 0; k < 16; k++) {
            due.range("put of all", box, k, k * 100L - 700, k * 1000L);
        }
    }

    private static void refuses(Due due) {
        RangeBox box = new RangeBox();
        box.put(3, -2, 8);
        due.bad("put(3, 1, 0)", () -> box.put(3, 1, 0));
        due.bad("put(3, 0, -1)", () -> box.put(3, 0, -1));
        due.bad("put(3, greatest, least)", () -> box.put(3, Due.GREATEST, Due.LEAST));
        due.range("after bad puts", box, 3, -2, 8);
        for (int k : NO_RANGES) {
            due.bad("put(" + k + ", 1, 2)", () -> box.put(k, 1, 2));
            due.bad("low(" + k + ")", () -> box.low(k));
            due.bad("high(" + k + ")", () -> box.high(k));
        }
        for (int k = 0; k < 16; k++) {
            due.range("after bad calls", box, k, k == 3 ? -2 : 0, k == 3 ? 8 : 0);
        }
    }
}
