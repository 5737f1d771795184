/** Promise 5: cut, by rows written out by hand from the document. */
final class CutTest {
    private static final String PROMISE = "promise 5, cut";
    private static final long LEAST = Due.LEAST;
    private static final long GREATEST = Due.GREATEST;

    public static void main(String[] args) {
        Due due = new Due();
        CutRows cuts = new CutRows(due);
        due.run(() -> looksAtConsts(due, cuts));
        due.run(() -> keepsTheCommon(due, cuts));
        due.run(() -> dropsAnEnd(due, cuts));
        due.run(() -> dropsNothingInside(due, cuts));
        due.run(() -> dropsNothingWithoutConst(due, cuts));
        due.run(() -> cutsWithSign(due, cuts));
        due.run(() -> cutsWithoutSign(due, cuts));
        due.run(() -> cutsLesserBelow0(due, cuts));
        due.run(() -> cutsNothingByGreaterBelow0(due, cuts));
        due.run(() -> cutsNothingByCommonBits(due, cuts));
        due.run(() -> cutsByContrary(due, cuts));
        due.run(() -> failsWithoutNumber(due, cuts));
        due.run(() -> failsWithoutLong(due, cuts));
        due.run(() -> answersWhetherItDidNotFail(due));
        due.run(() -> changesNothingFailing(due));
        due.run(() -> refusesTheSame(due));
        due.run(() -> refusesNoRange(due));
        due.run(() -> refusesNoCondition(due));
        due.end();
    }

    private static void looksAtConsts(Due due, CutRows cuts) {
        due.stands(PROMISE, "CONSTS: it fails, if it isn't so; nothing is cut.");
        for (Truth truth : Truth.ROWS) {
            long[] row = {truth.x, truth.x, truth.y, truth.y};
            for (int condition = 0; condition < 11; condition++) {
                cuts.look(condition, true, row, truth.holds(condition), row);
                cuts.look(condition, false, row, !truth.holds(condition), row);
            }
        }
    }

    private static void keepsTheCommon(Due due, CutRows cuts) {
        due.stands(PROMISE, "Else, where it's = : both are what both have in common");
        cuts.cut(Codes.EQUAL, new long[][] {
            {0, 10, 5, 20, 5, 10, 5, 10}, {0, 10, 10, 20, 10, 10, 10, 10}, {0, 20, 5, 10, 5, 10, 5, 10},
            {-5, 5, 2, 2, 2, 2, 2, 2}, {-5, 5, -5, -5, -5, -5, -5, -5}, {-5, 5, 5, 5, 5, 5, 5, 5},
            {LEAST, GREATEST, -1, 1, -1, 1, -1, 1}, {LEAST, -1, -1, GREATEST, -1, -1, -1, -1},
            {LEAST, GREATEST, LEAST, LEAST, LEAST, LEAST, LEAST, LEAST}
        });
        cuts.stay(Codes.EQUAL, new long[][] {{0, 10, 0, 10}, {LEAST, GREATEST, LEAST, GREATEST}});
    }

    private static void dropsAnEnd(Due due, CutRows cuts) {
        due.stands(PROMISE, "<>: where one is a CONST and an end of the other one, that end goes");
        cuts.cut(Codes.DIFFERENT, new long[][] {
            {0, 10, 0, 0, 1, 10, 0, 0}, {0, 10, 10, 10, 0, 9, 10, 10}, {7, 7, 7, 8, 7, 7, 8, 8},
            {8, 8, 7, 8, 8, 8, 7, 7}, {-1, 0, 0, 0, -1, -1, 0, 0},
            {LEAST, GREATEST, LEAST, LEAST, LEAST + 1, GREATEST, LEAST, LEAST},
            {GREATEST, GREATEST, LEAST, GREATEST, GREATEST, GREATEST, LEAST, GREATEST - 1},
            {GREATEST - 1, GREATEST, GREATEST, GREATEST, GREATEST - 1, GREATEST - 1, GREATEST, GREATEST}
        });
    }

    private static void dropsNothingInside(Due due, CutRows cuts) {
        due.stands(PROMISE, "that end goes (inside of it: nothing)");
        cuts.stay(Codes.DIFFERENT, new long[][] {
            {0, 10, 5, 5}, {0, 10, 1, 1}, {0, 10, 9, 9}, {0, 2, 1, 1}, {LEAST, GREATEST, 0, 0}
        });
    }

    private static void dropsNothingWithoutConst(Due due, CutRows cuts) {
        due.stands(PROMISE, "<>: where one is a CONST and an end of the other one");
        cuts.stay(Codes.DIFFERENT, new long[][] {
            {0, 10, 11, 11}, {0, 10, -1, -1}, {0, 10, 0, 10}, {0, 10, 10, 20}, {0, 10, 5, 20}, {7, 8, 7, 8},
            {LEAST, GREATEST, LEAST, GREATEST}
        });
    }

    private static void cutsWithSign(Due due, CutRows cuts) {
        due.stands(PROMISE, "with sign, below or not above: the one's high is cut to the other's (less 1), "
            + "the other's low to the one's (and 1), as these were before");
        cuts.cut(Codes.SIGNED_BELOW, new long[][] {
            {5, 20, 0, 10, 5, 9, 6, 10}, {-5, 20, -9, 10, -5, 9, -4, 10}, {0, 10, 10, 10, 0, 9, 10, 10},
            {10, 10, 0, 20, 10, 10, 11, 20}, {5, 20, 0, 6, 5, 5, 6, 6}, {-3, 4, -4, -2, -3, -3, -2, -2},
            {LEAST, 0, LEAST, 0, LEAST, -1, LEAST + 1, 0}, {0, GREATEST, 0, GREATEST, 0, GREATEST - 1, 1, GREATEST},
            {LEAST, GREATEST, LEAST, GREATEST, LEAST, GREATEST - 1, LEAST + 1, GREATEST},
            {LEAST, GREATEST, LEAST, LEAST + 1, LEAST, LEAST, LEAST + 1, LEAST + 1},
            {LEAST, LEAST, LEAST, 0, LEAST, LEAST, LEAST + 1, 0},
            {0, GREATEST, GREATEST, GREATEST, 0, GREATEST - 1, GREATEST, GREATEST}
        });
        cuts.stay(Codes.SIGNED_BELOW, new long[][] {
            {0, 10, 5, 20}, {0, 10, 11, 20}, {-3, -3, 2, 8}, {0, 9, 1, 10}, {LEAST, LEAST, 0, 5},
            {0, 5, GREATEST, GREATEST}
        });
        cuts.cut(Codes.SIGNED_NOT_ABOVE, new long[][] {
            {5, 20, 0, 10, 5, 10, 5, 10}, {-5, 20, -9, 10, -5, 10, -5, 10}, {5, 20, 0, 5, 5, 5, 5, 5},
            {10, 10, 0, 20, 10, 10, 10, 20}, {LEAST, 0, LEAST, LEAST, LEAST, LEAST, LEAST, LEAST},
            {GREATEST, GREATEST, 0, GREATEST, GREATEST, GREATEST, GREATEST, GREATEST}
        });
        cuts.stay(Codes.SIGNED_NOT_ABOVE, new long[][] {
            {0, 10, 5, 20}, {0, 10, 10, 10}, {0, 10, 0, 10}, {LEAST, GREATEST, LEAST, GREATEST}, {LEAST, 0, LEAST, 0}
        });
    }

    private static void cutsWithoutSign(Due due, CutRows cuts) {
        due.stands(PROMISE, "without sign: likewise, if both lows aren't below 0");
        cuts.cut(Codes.BELOW, new long[][] {
            {5, 20, 0, 10, 5, 9, 6, 10}, {0, 10, 10, 10, 0, 9, 10, 10}, {10, 10, 0, 20, 10, 10, 11, 20},
            {5, 20, 0, 6, 5, 5, 6, 6}, {0, 10, 0, 10, 0, 9, 1, 10}, {0, 4, 0, 1, 0, 0, 1, 1},
            {0, GREATEST, 0, GREATEST, 0, GREATEST - 1, 1, GREATEST},
            {0, GREATEST, GREATEST, GREATEST, 0, GREATEST - 1, GREATEST, GREATEST}
        });
        cuts.stay(Codes.BELOW, new long[][] {{0, 10, 5, 20}, {0, 10, 11, 20}, {0, 9, 1, 10}});
        cuts.cut(Codes.NOT_ABOVE, new long[][] {
            {5, 20, 0, 10, 5, 10, 5, 10}, {5, 20, 0, 5, 5, 5, 5, 5}, {0, 4, 0, 0, 0, 0, 0, 0},
            {GREATEST, GREATEST, 0, GREATEST, GREATEST, GREATEST, GREATEST, GREATEST}
        });
        cuts.stay(Codes.NOT_ABOVE, new long[][] {{0, 10, 5, 20}, {0, 10, 0, 10}, {0, GREATEST, 0, GREATEST}});
    }

    private static void cutsLesserBelow0(Due due, CutRows cuts) {
        due.stands(PROMISE, "else, if the greater one's low isn't below 0, the lesser one becomes what it has in "
            + "common with 0 .. the greater one's high (less 1 for <), the greater one stays");
        cuts.cut(Codes.BELOW, new long[][] {
            {-3, 10, 2, 8, 0, 7, 2, 8}, {-3, 4, 2, 8, 0, 4, 2, 8}, {-3, 10, 0, 8, 0, 7, 0, 8},
            {-1, 0, 0, 1, 0, 0, 0, 1}, {-3, 4, 1, 1, 0, 0, 1, 1}, {-3, 8, 2, 8, 0, 7, 2, 8}, {-3, 7, 2, 8, 0, 7, 2, 8},
            {LEAST, GREATEST, 3, GREATEST, 0, GREATEST - 1, 3, GREATEST},
            {LEAST, GREATEST, GREATEST, GREATEST, 0, GREATEST - 1, GREATEST, GREATEST}
        });
        cuts.cut(Codes.NOT_ABOVE, new long[][] {
            {-3, 10, 2, 8, 0, 8, 2, 8}, {-3, 4, 2, 8, 0, 4, 2, 8}, {-3, 10, 0, 8, 0, 8, 0, 8},
            {-3, 4, 0, 0, 0, 0, 0, 0}, {-1, 0, 5, 9, 0, 0, 5, 9},
            {LEAST, GREATEST, 0, GREATEST, 0, GREATEST, 0, GREATEST}
        });
    }

    private static void cutsNothingByGreaterBelow0(Due due, CutRows cuts) {
        due.stands(PROMISE, "the greater one stays; else nothing (which is no failing)");
        for (int condition : new int[] {Codes.BELOW, Codes.NOT_ABOVE}) {
            cuts.stay(condition, new long[][] {
                {-3, 4, -1, 8}, {2, 4, -1, 8}, {5, 6, -3, -3}, {9, 20, -1, 3}, {-1, -1, -9, -5}, {-4, -2, -9, -5},
                {0, 5, LEAST, LEAST}, {-1, 5, LEAST, LEAST}, {-1, -1, -2, 0}, {LEAST, GREATEST, LEAST, GREATEST},
                {GREATEST, GREATEST, -1, GREATEST}
            });
        }
    }

    private static void cutsNothingByCommonBits(Due due, CutRows cuts) {
        due.stands(PROMISE, "10, and its contrary: nothing.");
        long[][] rows = {
            {0, 10, 5, 20}, {0, 0, 5, 20}, {-1, -1, 1, 2}, {8, 8, 0, 7}, {LEAST, GREATEST, 0, 0}, {3, 5, 3, 5}
        };
        for (long[] row : rows) {
            cuts.look(Codes.COMMON_BITS, true, row, true, row);
            cuts.look(Codes.COMMON_BITS, false, row, true, row);
        }
    }

    private static void cutsByContrary(Due due, CutRows cuts) {
        due.stands(PROMISE, "by the condition, if holds, else by its contrary");
        long[] uncut = {5, 20, 0, 10};
        long[] same = {5, 10, 5, 10};
        long[] below = {5, 9, 6, 10};
        lookAtAll(cuts, true, uncut, same, uncut, below, same, uncut, uncut, below, same, uncut, uncut, uncut);
        lookAtAll(cuts, false, uncut, uncut, same, uncut, uncut, same, below, uncut, uncut, same, below, uncut);
        long[] other = {0, 10, 5, 20};
        long[] above = {6, 10, 5, 9};
        lookAtAll(cuts, true, other, same, other, other, other, above, same, other, other, above, same, other);
        lookAtAll(cuts, false, other, other, same, same, above, other, other, same, above, other, other, other);
    }

    /** After each condition's cut, or its contrary's, the ends that stand at the condition's number are due. */
    private static void lookAtAll(CutRows cuts, boolean holds, long[] before, long[]... after) {
        for (int condition = 0; condition < 11; condition++) {
            cuts.look(condition, holds, before, true, after[condition]);
        }
    }

    private static void failsWithoutNumber(Due due, CutRows cuts) {
        due.stands(PROMISE, "Where a RANGE would have no number (or its end no long), it fails.");
        cuts.fail(Codes.EQUAL, new long[][] {
            {0, 10, 11, 20}, {-5, 5, 6, 6}, {-5, 5, -6, -6}, {LEAST, -1, 0, GREATEST}
        });
        for (int condition : new int[] {Codes.BELOW, Codes.SIGNED_BELOW}) {
            cuts.fail(condition, new long[][] {
                {5, 20, 0, 5}, {5, 20, 0, 4}, {5, 5, 0, 5}, {5, 20, 5, 5}, {0, 4, 0, 0}
            });
        }
        for (int condition : new int[] {Codes.NOT_ABOVE, Codes.SIGNED_NOT_ABOVE}) {
            cuts.fail(condition, new long[][] {
                {5, 20, 0, 4}, {5, 5, 0, 4}, {5, 20, 4, 4}, {5, 20, 0, 1}, {1, 4, 0, 0}
            });
        }
        cuts.fail(Codes.BELOW, new long[][] {
            {-3, -1, 2, 8}, {-3, -3, 2, 8}, {-3, 4, 0, 0}, {-1, 0, 0, 0}, {LEAST, -1, 0, GREATEST}
        });
        cuts.fail(Codes.NOT_ABOVE, new long[][] {
            {-3, -1, 2, 8}, {-3, -3, 2, 8}, {-3, -1, 0, 0}, {LEAST, -1, 0, GREATEST}
        });
        cuts.fail(Codes.SIGNED_BELOW, new long[][] {
            {-3, 4, -4, -3}, {0, 5, LEAST, 0}, {LEAST + 1, 0, LEAST, LEAST + 1}
        });
        cuts.fail(Codes.SIGNED_NOT_ABOVE, new long[][] {{-3, 4, -5, -4}, {0, 5, LEAST, -1}});
    }

    private static void failsWithoutLong(Due due, CutRows cuts) {
        due.stands(PROMISE, "(or its end no long), it fails.");
        cuts.fail(Codes.SIGNED_BELOW, new long[][] {
            {LEAST, 0, LEAST, LEAST}, {LEAST, GREATEST, LEAST, LEAST}, {5, 6, LEAST, LEAST},
            {LEAST, LEAST + 1, LEAST, LEAST}, {GREATEST, GREATEST, 0, GREATEST}, {GREATEST, GREATEST, LEAST, GREATEST},
            {GREATEST, GREATEST, 5, 6}, {GREATEST, GREATEST, GREATEST - 1, GREATEST}
        });
        cuts.fail(Codes.BELOW, new long[][] {
            {GREATEST, GREATEST, 0, GREATEST}, {GREATEST, GREATEST, 5, 6}, {GREATEST, GREATEST, GREATEST - 1, GREATEST}
        });
    }

    private static void answersWhetherItDidNotFail(Due due) {
        due.stands(PROMISE, "Answers whether it didn't fail.");
        RangeBox box = new RangeBox();
        box.put(1, 5, 20);
        box.put(2, 0, 10);
        due.same("a cut that cuts", box.cut(Codes.SIGNED_BELOW, 1, 2, true), true);
        due.same("the same cut again, which cuts nothing more", box.cut(Codes.SIGNED_BELOW, 1, 2, true), true);
        due.same("a cut that leaves no number", box.cut(Codes.SIGNED_ABOVE, 1, 3, false), false);
        due.same("the same cut again", box.cut(Codes.SIGNED_ABOVE, 1, 3, false), false);
        due.same("a cut that cuts nothing", box.cut(Codes.COMMON_BITS, 1, 3, true), true);
    }

    private static void changesNothingFailing(Due due) {
        due.stands(PROMISE, "What fails changes nothing.");
        RangeBox box = new RangeBox();
        box.put(4, -6, 20);
        box.put(5, -20, -6);
        box.put(6, 7, 7);
        box.put(7, 7, 7);
        due.same("nine cuts fail", doNineCutsFail(box), true);
        due.range("the range 4", box, 4, -6, 20);
        due.range("the range 5", box, 5, -20, -6);
        due.range("the range 6", box, 6, 7, 7);
        due.range("the range 7", box, 7, 7, 7);
        due.same("a cut that does not fail", box.cut(Codes.SIGNED_NOT_ABOVE, 4, 5, true), true);
        due.range("the range 4, cut", box, 4, -6, -6);
        due.range("the range 5, cut", box, 5, -6, -6);
    }

    private static boolean doNineCutsFail(RangeBox box) {
        boolean fail = !box.cut(Codes.SIGNED_BELOW, 4, 5, true);
        fail &= !box.cut(Codes.SIGNED_NOT_BELOW, 4, 5, false);
        fail &= !box.cut(Codes.SIGNED_ABOVE, 5, 4, true);
        fail &= !box.cut(Codes.EQUAL, 5, 6, true);
        fail &= !box.cut(Codes.DIFFERENT, 5, 6, false);
        fail &= !box.cut(Codes.BELOW, 5, 6, true);
        fail &= !box.cut(Codes.ABOVE, 6, 5, true);
        fail &= !box.cut(Codes.DIFFERENT, 6, 7, true);
        fail &= !box.cut(Codes.COMMON_BITS, 6, 7, false);
        return fail;
    }

    private static RangeBox boxOfSixteen() {
        RangeBox box = new RangeBox();
        for (int k = 0; k < 16; k++) {
            box.put(k, -k, 2 * k);
        }
        return box;
    }

    private static void staysAsMade(Due due, RangeBox box) {
        for (int k = 0; k < 16; k++) {
            due.range("after bad cuts", box, k, -k, 2 * k);
        }
    }

    private static void refusesTheSame(Due due) {
        due.stands(PROMISE, "CUTTING RANGES x, y (the same: bad)");
        RangeBox box = boxOfSixteen();
        for (int condition = 0; condition < 11; condition++) {
            int c = condition;
            due.bad("cut(" + c + ", 4, 4, true)", () -> box.cut(c, 4, 4, true));
            due.bad("cut(" + c + ", 15, 15, false)", () -> box.cut(c, 15, 15, false));
            due.bad("cut(" + c + ", 0, 0, true), a CONST", () -> box.cut(c, 0, 0, true));
            due.bad("cut(" + c + ", 0, 0, false), a CONST", () -> box.cut(c, 0, 0, false));
        }
        staysAsMade(due, box);
    }

    private static void refusesNoRange(Due due) {
        due.stands(PROMISE, Due.BAD);
        RangeBox box = boxOfSixteen();
        for (int none : Codes.NO_RANGES) {
            for (int condition = 0; condition < 11; condition++) {
                int c = condition;
                due.bad("cut(" + c + ", " + none + ", 1, true)", () -> box.cut(c, none, 1, true));
                due.bad("cut(" + c + ", 1, " + none + ", false)", () -> box.cut(c, 1, none, false));
                due.bad("cut(" + c + ", " + none + ", " + none + ", true)", () -> box.cut(c, none, none, true));
            }
        }
        staysAsMade(due, box);
    }

    private static void refusesNoCondition(Due due) {
        due.stands(PROMISE, Due.BAD);
        RangeBox box = boxOfSixteen();
        for (int none : Codes.NO_CONDITIONS) {
            due.bad("cut(" + none + ", 1, 2, true)", () -> box.cut(none, 1, 2, true));
            due.bad("cut(" + none + ", 1, 2, false)", () -> box.cut(none, 1, 2, false));
            due.bad("cut(" + none + ", 1, 2, true) of CONSTS", () -> new RangeBox().cut(none, 1, 2, true));
        }
        staysAsMade(due, box);
        due.good("cut(0, 1, 2, true)", () -> box.cut(0, 1, 2, true));
        due.good("cut(10, 1, 2, true)", () -> box.cut(10, 1, 2, true));
    }
}
