/** Promise 6: holds. */
final class HoldsTest {
    private static final String PROMISE = "promise 6, holds";
    private static final long LEAST = Due.LEAST;
    private static final long GREATEST = Due.GREATEST;

    public static void main(String[] args) {
        Due due = new Due();
        due.run(() -> looksForTheSame(due));
        due.run(() -> comparesWithoutSign(due));
        due.run(() -> comparesWithSign(due));
        due.run(() -> looksForCommonBits(due));
        due.run(() -> holdsOrNot(due));
        due.run(() -> refusesNoCondition(due));
        due.run(() -> agreesWithModel(due));
        due.end();
    }

    private static void look(Due due, RangeBox box, int condition, long x, long y, boolean want) {
        due.same("holds(" + condition + ", " + x + ", " + y + ")", box.holds(condition, x, y), want);
    }

    /** Each pair: x, y, of which it is so, or not. */
    private static void look(Due due, int condition, boolean so, long[][] pairs) {
        RangeBox box = new RangeBox();
        for (long[] pair : pairs) {
            look(due, box, condition, pair[0], pair[1], so);
        }
    }

    private static void looksForTheSame(Due due) {
        due.stands(PROMISE, "CONDITIONS: 0 =, 1 <>");
        long[][] same = {{4, 4}, {0, 0}, {-1, -1}, {LEAST, LEAST}, {GREATEST, GREATEST}};
        long[][] different = {{3, 4}, {-1, 1}, {0, LEAST}, {LEAST, GREATEST}, {4, 0x100000004L}, {-1, Due.NARROW}};
        look(due, Codes.EQUAL, true, same);
        look(due, Codes.EQUAL, false, different);
        look(due, Codes.DIFFERENT, false, same);
        look(due, Codes.DIFFERENT, true, different);
    }

    private static void comparesWithoutSign(Due due) {
        due.stands(PROMISE, "2 <, 3 <=, 4 >, 5 >= (without sign)");
        compares(due, Codes.BELOW, new long[][] {
            {3, 4}, {0, 1}, {0, -1}, {1, -1}, {GREATEST, LEAST}, {GREATEST - 1, GREATEST}, {LEAST, -1},
            {LEAST, LEAST + 1}, {-2, -1}, {0, LEAST}, {1, 0x100000000L}
        });
    }

    private static void comparesWithSign(Due due) {
        due.stands(PROMISE, "6 <, 7 <=, 8 >, 9 >= (with sign)");
        compares(due, Codes.SIGNED_BELOW, new long[][] {
            {3, 4}, {0, 1}, {-1, 0}, {-1, 1}, {LEAST, GREATEST}, {GREATEST - 1, GREATEST}, {LEAST, -1},
            {LEAST, LEAST + 1}, {-2, -1}, {LEAST, 0}, {1, 0x100000000L}
        });
    }

    /** Each pair: the lesser one and the greater one; behind < stand <=, > and >=. */
    private static void compares(Due due, int below, long[][] pairs) {
        RangeBox box = new RangeBox();
        for (long[] pair : pairs) {
            for (int k = 0; k < 4; k++) {
                look(due, box, below + k, pair[0], pair[1], k < 2);
                look(due, box, below + k, pair[1], pair[0], k >= 2);
                look(due, box, below + k, pair[0], pair[0], k % 2 == 1);
                look(due, box, below + k, pair[1], pair[1], k % 2 == 1);
            }
        }
    }

    private static void looksForCommonBits(Due due) {
        due.stands(PROMISE, "10 (x AND y isn't 0)");
        look(due, Codes.COMMON_BITS, true, new long[][] {
            {4, 4}, {5, 4}, {-1, 1}, {1, -1}, {LEAST, -1}, {LEAST, LEAST}, {-1, 0x100000000L}, {GREATEST, 1}
        });
        look(due, Codes.COMMON_BITS, false, new long[][] {
            {0, 0}, {0, -1}, {-1, 0}, {8, 7}, {3, 4}, {LEAST, GREATEST}, {0x100000000L, Due.NARROW}
        });
    }

    private static void holdsOrNot(Due due) {
        due.stands(PROMISE, "each holds or not");
        RangeBox box = new RangeBox();
        box.put(1, 2, 3);
        for (Truth truth : Truth.ROWS) {
            for (int condition = 0; condition < 11; condition++) {
                look(due, box, condition, truth.x, truth.y, truth.holds(condition));
            }
        }
        due.range("holds changes nothing", box, 1, 2, 3);
    }

    private static void refusesNoCondition(Due due) {
        due.stands(PROMISE, Due.BAD);
        RangeBox box = new RangeBox();
        for (int none : Codes.NO_CONDITIONS) {
            due.bad("holds(" + none + ", 4, 4)", () -> box.holds(none, 4, 4));
            due.bad("holds(" + none + ", 0, -1)", () -> box.holds(none, 0, -1));
        }
        due.good("holds(0, 4, 4)", () -> box.holds(0, 4, 4));
        due.good("holds(10, 4, 4)", () -> box.holds(10, 4, 4));
    }

    private static void agreesWithModel(Due due) {
        due.stands(PROMISE, "Whether the condition holds of x and y.");
        for (long x : Edges.NUMBERS) {
            for (long y : Edges.NUMBERS) {
                RangeBox box = new RangeBox();
                for (int condition = 0; condition < 11; condition++) {
                    look(due, box, condition, x, y, Model.holds(condition, x, y));
                }
            }
        }
    }
}
