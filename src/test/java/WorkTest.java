/** Promise 3: work, but for the outcomes, which OutcomeTest, BitOutcomeTest and NarrowOutcomeTest look at. */
final class WorkTest {
    private static final String PROMISE = "promise 3, work";

    public static void main(String[] args) {
        Due due = new Due();
        due.run(() -> changesOneRange(due));
        due.run(() -> takesOneRangeTwice(due));
        due.run(() -> refusesNoRange(due));
        due.run(() -> refusesNoInstruction(due));
        due.end();
    }

    private static RangeBox boxOfSixteen() {
        RangeBox box = new RangeBox();
        for (int k = 0; k < 16; k++) {
            box.put(k, k, 2 * k);
        }
        return box;
    }

    private static void staysAsMade(Due due, RangeBox box, int but) {
        for (int k = 0; k < 16; k++) {
            if (k != but) {
                due.range("the others", box, k, k, 2 * k);
            }
        }
    }

    private static void changesOneRange(Due due) {
        due.stands(PROMISE, "RANGE d becomes the OUTCOME of the instruction on RANGES x and y");
        RangeBox box = boxOfSixteen();
        box.work(0, Codes.ADD, 15, 14, false);
        due.range("work(0, ADD, 15, 14, false)", box, 0, 29, 58);
        staysAsMade(due, box, 0);
        box = boxOfSixteen();
        box.work(15, Codes.SUB, 0, 1, true);
        due.range("work(15, SUB, 0, 1, true)", box, 15, 0, Due.NARROW);
        staysAsMade(due, box, 15);
    }

    private static void takesOneRangeTwice(Due due) {
        due.stands(PROMISE, "(any of them may be the same)");
        RangeBox box = new RangeBox();
        box.put(4, 2, 5);
        box.work(5, Codes.SUB, 4, 4, false);
        due.range("x less x", box, 5, -3, 3);
        box.work(4, Codes.MUL, 4, 4, false);
        due.range("x is x times x", box, 4, 4, 25);
        box.work(4, Codes.XOR, 4, 4, true);
        due.range("x is x xor x", box, 4, 0, 31);
        box.put(6, 40, 90);
        box.work(6, Codes.DIV, 6, 4, false);
        due.range("x is x by what may be 0", box, 6, 0, 90);
        box.put(7, 4, 9);
        box.work(7, Codes.DIV, 6, 7, false);
        due.range("y is x by y", box, 7, 0, 22);
        box.put(8, 9, 9);
        box.work(8, Codes.SUB, 8, 8, true);
        due.range("a CONST less itself", box, 8, 0, 0);
    }

    private static void refusesNoRange(Due due) {
        due.stands(PROMISE, Due.BAD);
        RangeBox box = boxOfSixteen();
        for (int none : Codes.NO_RANGES) {
            for (int instruction = 0; instruction < 13; instruction++) {
                int i = instruction;
                due.bad("work(" + none + ", " + i + ", 1, 2)", () -> box.work(none, i, 1, 2, false));
                due.bad("work(3, " + i + ", " + none + ", 2)", () -> box.work(3, i, none, 2, false));
                due.bad("work(3, " + i + ", 1, " + none + ")", () -> box.work(3, i, 1, none, true));
            }
        }
        staysAsMade(due, box, -1);
    }

    private static void refusesNoInstruction(Due due) {
        due.stands(PROMISE, "(0 .. 12, else bad; narrow as told)");
        RangeBox box = boxOfSixteen();
        for (int none : Codes.NO_INSTRUCTIONS) {
            due.bad("work(3, " + none + ", 1, 2, false)", () -> box.work(3, none, 1, 2, false));
            due.bad("work(3, " + none + ", 1, 2, true)", () -> box.work(3, none, 1, 2, true));
            due.bad("work(3, " + none + ", 0, 0, false)", () -> box.work(3, none, 0, 0, false));
        }
        staysAsMade(due, box, -1);
        due.good("work(3, 0, 1, 2, false)", () -> box.work(3, 0, 1, 2, false));
        due.good("work(3, 12, 1, 2, false)", () -> box.work(3, 12, 1, 2, false));
    }
}
