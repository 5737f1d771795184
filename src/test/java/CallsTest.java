/** Every promise is kept up to an object's 512th call. */
final class CallsTest {
    private static final String SENTENCE = "An object is used for at most 512 calls after it has been made";
    private static final int CALLS = 512;

    public static void main(String[] args) {
        Due due = new Due();
        due.run(() -> keepsPuts(due));
        due.run(() -> worksToTheEnd(due));
        due.run(() -> makesExactlyToTheEnd(due));
        due.run(() -> cutsToTheEnd(due));
        due.run(() -> holdsToTheEnd(due));
        due.run(() -> refusesToTheEnd(due));
        due.end();
    }

    private static void call(RangeBox box, int calls) {
        for (int i = 0; i < calls; i++) {
            box.put(i % 8, -i, i);
        }
    }

    private static void keepsPuts(Due due) {
        due.stands("promises 2, 7 and 8, put, low and high", SENTENCE);
        RangeBox box = new RangeBox();
        box.put(9, -5, 9);
        call(box, CALLS - 4);
        due.good("put as call 510", () -> box.put(10, 3, 4));
        due.same("high as call 511", box.high(10), 4);
        due.same("low as call 512", box.low(9), -5);
        RangeBox other = new RangeBox();
        call(other, CALLS - 1);
        due.good("put as call 512", () -> other.put(10, 3, 4));
    }

    private static void worksToTheEnd(Due due) {
        due.stands("promise 3, work", SENTENCE);
        RangeBox box = new RangeBox();
        call(box, CALLS - 4);
        box.put(9, -5, 9);
        due.good("work as call 510", () -> box.work(10, Codes.ADD, 9, 9, false));
        due.range("work, calls 511 and 512", box, 10, -10, 18);
        RangeBox other = new RangeBox();
        call(other, CALLS - 1);
        due.good("work as call 512", () -> other.work(10, Codes.ADD, 9, 9, false));
    }

    private static void makesExactlyToTheEnd(Due due) {
        due.stands("promise 4, exact", SENTENCE);
        RangeBox box = new RangeBox();
        call(box, CALLS - 1);
        due.same("exact as call 512", box.exact(Codes.DIV, -1, 2, false), Due.GREATEST);
    }

    private static void cutsToTheEnd(Due due) {
        due.stands("promise 5, cut", SENTENCE);
        RangeBox box = new RangeBox();
        call(box, CALLS - 5);
        box.put(9, 5, 20);
        box.put(10, 0, 10);
        due.same("cut as call 510", box.cut(Codes.SIGNED_BELOW, 9, 10, true), true);
        due.range("cut, calls 511 and 512", box, 9, 5, 9);
        RangeBox other = new RangeBox();
        call(other, CALLS - 1);
        due.same("cut as call 512", other.cut(Codes.DIFFERENT, 9, 10, true), false);
    }

    private static void holdsToTheEnd(Due due) {
        due.stands("promise 6, holds", SENTENCE);
        RangeBox box = new RangeBox();
        call(box, CALLS - 1);
        due.same("holds as call 512", box.holds(Codes.BELOW, 1, -1), true);
    }

    private static void refusesToTheEnd(Due due) {
        due.stands("promises 2 to 8", SENTENCE);
        RangeBox box = new RangeBox();
        box.put(9, -5, 9);
        for (int i = 0; i < CALLS - 3; i++) {
            due.bad("a bad call", () -> box.put(9, 1, 0));
        }
        due.bad("low(16) as call 511", () -> box.low(16));
        due.same("low as call 512, behind bad ones alone", box.low(9), -5);
    }
}
