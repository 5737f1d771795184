/** Promises 2, 7 and 8: put, low, high. */
final class PutTest {
    private static final String PUT = "promise 2, put";
    private static final String LOW = "promise 7, low";
    private static final String HIGH = "promise 8, high";
    private static final long LEAST = Due.LEAST;
    private static final long GREATEST = Due.GREATEST;

    public static void main(String[] args) {
        Due due = new Due();
        due.run(() -> putsEachRange(due));
        due.run(() -> putsEveryPlaceApart(due));
        due.run(() -> putsConsts(due));
        due.run(() -> putsAll(due));
        due.run(() -> refusesLowAboveHigh(due));
        due.run(() -> refusesNoRange(due));
        due.run(() -> tellsLow(due));
        due.run(() -> tellsHigh(due));
        due.end();
    }

    private static void look(Due due, long[][] ranges) {
        RangeBox box = new RangeBox();
        for (long[] range : ranges) {
            String call = "put(15, " + range[0] + ", " + range[1] + ")";
            due.good(call, () -> box.put(15, range[0], range[1]));
            due.range(call, box, 15, range[0], range[1]);
        }
    }

    private static void putsEachRange(Due due) {
        due.stands(PUT, "RANGE k is low .. high");
        look(due, new long[][] {
            {-5, 9}, {-9, -5}, {5, 9}, {-1, 0}, {0, 1}, {LEAST, -1}, {0, GREATEST}, {0x80000000L, 0xffffffffL}
        });
    }

    private static void putsEveryPlaceApart(Due due) {
        due.stands(PUT, "RANGES 0 .. 15: low .. high, longs with sign");
        RangeBox box = new RangeBox();
        for (int k = 0; k < 16; k++) {
            box.put(k, k * 100L - 700, k * 1000L);
        }
        for (int k = 0; k < 16; k++) {
            due.range("put of all", box, k, k * 100L - 700, k * 1000L);
        }
    }

    private static void putsConsts(Due due) {
        due.stands(PUT, "CONST: low is high.");
        look(due, new long[][] {{0, 0}, {7, 7}, {-7, -7}, {LEAST, LEAST}, {GREATEST, GREATEST}});
    }

    private static void putsAll(Due due) {
        due.stands(PUT, "ALL: the least long to the greatest.");
        look(due, new long[][] {{LEAST, GREATEST}, {LEAST, GREATEST - 1}, {LEAST + 1, GREATEST}});
    }

    private static void refusesLowAboveHigh(Due due) {
        due.stands(PUT, "RANGE k is low .. high (low above high: bad).");
        RangeBox box = new RangeBox();
        box.put(3, -2, 8);
        long[][] wrong = {
            {1, 0}, {0, -1}, {1, -1}, {9, 5}, {-5, -9}, {LEAST + 1, LEAST}, {GREATEST, GREATEST - 1}, {GREATEST, LEAST}
        };
        for (long[] range : wrong) {
            due.bad("put(3, " + range[0] + ", " + range[1] + ")", () -> box.put(3, range[0], range[1]));
            due.range("after a bad put", box, 3, -2, 8);
        }
    }

    private static void refusesNoRange(Due due) {
        due.stands(PUT, Due.BAD);
        RangeBox box = new RangeBox();
        for (int k : Codes.NO_RANGES) {
            due.bad("put(" + k + ", 1, 2)", () -> box.put(k, 1, 2));
            due.bad("put(" + k + ", 2, 1)", () -> box.put(k, 2, 1));
        }
        for (int k = 0; k < 16; k++) {
            due.range("after bad puts", box, k, 0, 0);
        }
    }

    private static RangeBox boxOfSixteen() {
        RangeBox box = new RangeBox();
        for (int k = 0; k < 16; k++) {
            box.put(k, k - 20, 30 - k);
        }
        return box;
    }

    private static void tellsLow(Due due) {
        RangeBox box = boxOfSixteen();
        due.stands(LOW, "RANGE k's low.");
        for (int k = 0; k < 16; k++) {
            due.same("low(" + k + ")", box.low(k), k - 20);
        }
        box.put(0, LEAST, GREATEST);
        due.same("low of ALL", box.low(0), LEAST);
        due.stands(LOW, Due.BAD);
        for (int k : Codes.NO_RANGES) {
            due.bad("low(" + k + ")", () -> box.low(k));
        }
        due.same("low(15) after bad ones", box.low(15), -5);
    }

    private static void tellsHigh(Due due) {
        RangeBox box = boxOfSixteen();
        due.stands(HIGH, "RANGE k's high.");
        for (int k = 0; k < 16; k++) {
            due.same("high(" + k + ")", box.high(k), 30 - k);
        }
        box.put(0, LEAST, GREATEST);
        due.same("high of ALL", box.high(0), GREATEST);
        due.stands(HIGH, Due.BAD);
        for (int k : Codes.NO_RANGES) {
            due.bad("high(" + k + ")", () -> box.high(k));
        }
        due.same("high(15) after bad ones", box.high(15), 15);
    }
}
