/** Promise 1: a new object. */
final class NewObjectTest {
    private static final String PROMISE = "promise 1, a new object";

    public static void main(String[] args) {
        Due due = new Due();
        due.run(() -> allAreZero(due));
        due.run(() -> hasSixteenRanges(due));
        due.run(() -> sharesNothing(due));
        due.end();
    }

    private static void allAreZero(Due due) {
        due.stands(PROMISE, "All RANGES are 0 .. 0.");
        RangeBox box = new RangeBox();
        for (int k = 0; k < 16; k++) {
            due.range("new", box, k, 0, 0);
        }
    }

    private static void hasSixteenRanges(Due due) {
        due.stands(PROMISE, "RANGES 0 .. 15: low .. high, longs with sign, low not above high; 0 .. 0 at first.");
        RangeBox box = new RangeBox();
        due.range("the first", box, 0, 0, 0);
        due.range("the last", box, 15, 0, 0);
        due.bad("low before the first", () -> box.low(-1));
        due.bad("high before the first", () -> box.high(-1));
        due.bad("low behind the last", () -> box.low(16));
        due.bad("high behind the last", () -> box.high(16));
    }

    private static void sharesNothing(Due due) {
        due.stands(PROMISE, "All memory is the class's own rows.");
        RangeBox first = new RangeBox();
        for (int k = 0; k < 16; k++) {
            first.put(k, -k - 1, k + 1);
        }
        RangeBox second = new RangeBox();
        for (int k = 0; k < 16; k++) {
            due.range("a second object", second, k, 0, 0);
            due.range("the first object", first, k, -k - 1, k + 1);
        }
    }
}
