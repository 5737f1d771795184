/** Promise 3: the OUTCOMES of CONSTS and of the instructions that reckon, in 64 bits. */
final class OutcomeTest {
    private static final String PROMISE = "promise 3, work";
    private static final long LEAST = Due.LEAST;
    private static final long GREATEST = Due.GREATEST;
    private static final long HALF = 0x4000000000000000L;
    // Twice this number is its own bits turned over.
    private static final long THIRD = 0x5555555555555555L;
    private static final String ENDS =
        "ADD, SUB, MUL: the least and greatest outcome of ends, if all of them are longs; else ALL.";
    private static final String DIV = "DIV: y.low above 0 and x.low not below 0: x.low / y.high .. x.high / y.low";
    private static final String DIV_BY_0 = "x.low and y.low not below 0: 0 .. x.high";
    private static final String MOD =
        "MOD: y.low above 0, x.low not below 0: 0 .. the lesser of x.high and y.high - 1";
    private static final String MOD_BY_0 = "both not below 0: 0 .. x.high";

    public static void main(String[] args) {
        Due due = new Due();
        OutcomeRows outcomes = new OutcomeRows(due, false);
        due.run(() -> reckonsConsts(due, outcomes));
        due.run(() -> needsBothConst(due, outcomes));
        due.run(() -> moves(due, outcomes));
        due.run(() -> adds(due, outcomes));
        due.run(() -> subtracts(due, outcomes));
        due.run(() -> multiplies(due, outcomes));
        due.run(() -> divides(due, outcomes));
        due.run(() -> dividesByWhatMayBe0(due, outcomes));
        due.run(() -> dividesBelow0(due, outcomes));
        due.run(() -> leavesRest(due, outcomes));
        due.run(() -> leavesRestByWhatMayBe0(due, outcomes));
        due.run(() -> leavesRestBelow0(due, outcomes));
        due.run(() -> turnsSign(due, outcomes));
        due.run(() -> takesAll(due, outcomes));
        due.end();
    }

    private static void reckonsConsts(Due due, OutcomeRows outcomes) {
        due.stands(PROMISE, "of CONSTS (NEG: x being one, MOVE: y) the instruction's itself");
        outcomes.are(Codes.MOVE, new long[][] {{1, 2, -3, -3, -3, -3}, {LEAST, GREATEST, LEAST, LEAST, LEAST, LEAST}});
        outcomes.are(Codes.ADD, new long[][] {{GREATEST, GREATEST, 1, 1, LEAST, LEAST}, {2, 2, 3, 3, 5, 5}});
        outcomes.are(Codes.SUB, new long[][] {
            {LEAST, LEAST, 1, 1, GREATEST, GREATEST}, {0, 0, LEAST, LEAST, LEAST, LEAST}
        });
        outcomes.are(Codes.MUL, new long[][] {
            {GREATEST, GREATEST, 2, 2, -2, -2}, {LEAST, LEAST, -1, -1, LEAST, LEAST}
        });
        outcomes.are(Codes.DIV, new long[][] {
            {-1, -1, 2, 2, GREATEST, GREATEST}, {5, 5, 0, 0, 0, 0}, {-5, -5, 0, 0, 0, 0}
        });
        outcomes.are(Codes.MOD, new long[][] {{-1, -1, 10, 10, 5, 5}, {-5, -5, 0, 0, -5, -5}, {5, 5, -1, -1, 5, 5}});
        outcomes.are(Codes.AND, new long[][] {{-4, -4, -3, -3, -4, -4}, {6, 6, 3, 3, 2, 2}});
        outcomes.are(Codes.OR, new long[][] {{-4, -4, 3, 3, -1, -1}, {6, 6, 3, 3, 7, 7}, {4, 4, 0, 0, 4, 4}});
        outcomes.are(Codes.XOR, new long[][] {{-1, -1, 1, 1, -2, -2}, {6, 6, 3, 3, 5, 5}, {0, 0, 0, 0, 0, 0}});
        outcomes.are(Codes.LEFT, new long[][] {{-1, -1, 63, 63, LEAST, LEAST}, {3, 3, 63, 63, LEAST, LEAST}});
        outcomes.are(Codes.RIGHT, new long[][] {{-1, -1, 1, 1, GREATEST, GREATEST}, {-8, -8, 63, 63, 1, 1}});
        outcomes.are(Codes.SIGNED_RIGHT, new long[][] {{-8, -8, 2, 2, -2, -2}, {LEAST, LEAST, 63, 63, -1, -1}});
        outcomes.are(Codes.NEG, new long[][] {
            {LEAST, LEAST, 3, 4, LEAST, LEAST}, {7, 7, 3, 4, -7, -7}, {7, 7, 3, 3, -7, -7}
        });
    }

    private static void needsBothConst(Due due, OutcomeRows outcomes) {
        due.stands(PROMISE, "of CONSTS (NEG: x being one, MOVE: y) the instruction's itself. Else");
        outcomes.are(Codes.MOVE, new long[][] {{1, 1, -3, 4, -3, 4}});
        outcomes.are(Codes.NEG, new long[][] {{-5, 9, 3, 3, -9, 5}});
        for (int instruction : new int[] {Codes.ADD, Codes.LEFT}) {
            outcomes.areAll(instruction, new long[][] {{GREATEST, GREATEST, 1, 2}});
        }
        for (int instruction : new int[] {Codes.DIV, Codes.MOD, Codes.OR, Codes.XOR}) {
            outcomes.areAll(instruction, new long[][] {{-1, -1, 1, 2}, {1, 2, -1, -1}});
        }
        outcomes.are(Codes.SUB, new long[][] {{5, 5, 1, 2, 3, 4}, {1, 2, 5, 5, -4, -3}});
        outcomes.are(Codes.MUL, new long[][] {{5, 5, 1, 2, 5, 10}, {1, 2, 5, 5, 5, 10}});
        outcomes.are(Codes.AND, new long[][] {{5, 5, 1, 2, 0, 2}, {1, 2, 5, 5, 0, 2}});
        outcomes.are(Codes.RIGHT, new long[][] {{8, 8, 1, 2, 0, 8}, {8, 9, 1, 1, 4, 4}});
        outcomes.are(Codes.SIGNED_RIGHT, new long[][] {{8, 8, 1, 2, 0, 8}, {8, 9, 1, 1, 4, 4}});
    }

    private static void moves(Due due, OutcomeRows outcomes) {
        due.stands(PROMISE, "Else MOVE: y.");
        outcomes.are(Codes.MOVE, new long[][] {
            {1, 2, -3, 4, -3, 4}, {-9, 9, 5, 6, 5, 6}, {0, 0, LEAST, GREATEST, LEAST, GREATEST},
            {0, 0, LEAST, -1, LEAST, -1}
        });
    }

    private static void adds(Due due, OutcomeRows outcomes) {
        due.stands(PROMISE, ENDS);
        outcomes.are(Codes.ADD, new long[][] {
            {-5, 9, 3, 4, -2, 13}, {5, 9, -7, -3, -2, 6}, {-7, -3, 5, 9, -2, 6}, {0, GREATEST - 1, 0, 1, 0, GREATEST},
            {LEAST + 1, 0, -1, 0, LEAST, 0}, {LEAST, 0, 0, 1, LEAST, 1}, {LEAST, GREATEST, 0, 0, LEAST, GREATEST},
            {LEAST, -1, 1, GREATEST, LEAST + 1, GREATEST - 1}
        });
        outcomes.areAll(Codes.ADD, new long[][] {
            {0, GREATEST, 0, 1}, {LEAST, 0, -1, 0}, {GREATEST, GREATEST, 0, 1}, {LEAST, LEAST, -1, 0},
            {LEAST, LEAST + 1, LEAST, LEAST + 1}, {GREATEST - 1, GREATEST, GREATEST - 1, GREATEST},
            {LEAST, GREATEST, 1, 1}, {LEAST, GREATEST, -1, -1}, {0, THIRD, 0, THIRD}
        });
    }

    private static void subtracts(Due due, OutcomeRows outcomes) {
        due.stands(PROMISE, ENDS);
        outcomes.are(Codes.SUB, new long[][] {
            {-5, 9, 3, 4, -9, 6}, {3, 5, 4, 9, -6, 1}, {-5, -3, -9, -4, -1, 6}, {LEAST + 1, 0, 0, 1, LEAST, 0},
            {-2, -1, LEAST, 0, -2, GREATEST}, {0, GREATEST - 1, -1, 0, 0, GREATEST},
            {LEAST, GREATEST, 0, 0, LEAST, GREATEST}, {LEAST, -1, LEAST, -1, LEAST + 1, GREATEST},
            {0, GREATEST, 0, GREATEST, LEAST + 1, GREATEST}
        });
        outcomes.areAll(Codes.SUB, new long[][] {
            {LEAST, 0, 0, 1}, {-1, 0, LEAST, 0}, {0, GREATEST, -1, 0}, {LEAST, LEAST, 0, 1},
            {GREATEST, GREATEST, -1, 0}, {LEAST, LEAST + 1, GREATEST - 1, GREATEST},
            {GREATEST - 1, GREATEST, LEAST, LEAST + 1}, {-THIRD - 1, 0, 0, THIRD}
        });
    }

    private static void multiplies(Due due, OutcomeRows outcomes) {
        due.stands(PROMISE, ENDS);
        outcomes.are(Codes.MUL, new long[][] {
            {-5, 9, 3, 4, -20, 36}, {-5, 3, -7, 2, -21, 35}, {2, 3, 4, 5, 8, 15}, {-3, -2, -5, -4, 8, 15},
            {-3, -2, 4, 5, -15, -8}, {2, 3, -5, -4, -15, -8},
            {LEAST, 0, 0, 1, LEAST, 0}, {LEAST + 1, 0, -1, 0, 0, GREATEST}, {-1, 0, LEAST + 1, 0, 0, GREATEST},
            {LEAST, GREATEST, 0, 0, 0, 0}, {LEAST, GREATEST, 1, 1, LEAST, GREATEST},
            {LEAST + 1, GREATEST, -1, -1, LEAST + 1, GREATEST}, {1, HALF, -2, -2, LEAST, -2},
            {1, HALF - 1, 2, 2, 2, GREATEST - 1}, {0, 3037000499L, 0, 3037000499L, 0, 9223372030926249001L}
        });
        outcomes.areAll(Codes.MUL, new long[][] {
            {LEAST, 0, -1, 0}, {-1, 0, LEAST, 0}, {LEAST, GREATEST, -1, -1}, {-1, -1, LEAST, GREATEST}, {1, HALF, 2, 2},
            {0, 3037000500L, 0, 3037000500L}, {0, 0x100000000L, 0, 0x100000000L},
            {LEAST, 0, -2, 0}, {LEAST, 0, 0, 2}, {0, GREATEST, -2, 0}, {0, GREATEST, 0, 2}, {0, HALF + 1, -2, 0}
        });
    }

    private static void divides(Due due, OutcomeRows outcomes) {
        due.stands(PROMISE, DIV);
        outcomes.are(Codes.DIV, new long[][] {
            {10, 99, 2, 5, 2, 49}, {0, 99, 1, 5, 0, 99}, {0, 99, 2, 5, 0, 49}, {10, 99, 1, 1, 10, 99},
            {10, 99, GREATEST, GREATEST, 0, 0}, {9, 11, 10, 10, 0, 1}, {10, 10, 9, 11, 0, 1},
            {0, GREATEST, 1, GREATEST, 0, GREATEST}, {0, 0, 1, 2, 0, 0}, {GREATEST, GREATEST, 1, GREATEST, 1, GREATEST}
        });
    }

    private static void dividesByWhatMayBe0(Due due, OutcomeRows outcomes) {
        due.stands(PROMISE, DIV + "; " + DIV_BY_0);
        outcomes.are(Codes.DIV, new long[][] {
            {10, 99, 0, 5, 0, 99}, {10, 99, 0, 0, 0, 99}, {0, 99, 0, 5, 0, 99}, {7, 7, 0, 5, 0, 7}, {0, 0, 0, 5, 0, 0},
            {0, GREATEST, 0, GREATEST, 0, GREATEST}, {10, 99, 0, GREATEST, 0, 99}
        });
    }

    private static void dividesBelow0(Due due, OutcomeRows outcomes) {
        due.stands(PROMISE, DIV + "; " + DIV_BY_0 + "; else ALL.");
        outcomes.areAll(Codes.DIV, new long[][] {
            {-1, 99, 2, 5}, {10, 99, -1, 5}, {-1, 99, 0, 5}, {-1, 99, 0, 0}, {-9, -5, -3, -2}, {-1, -1, 1, 2},
            {5, 9, -1, -1}, {LEAST, GREATEST, 1, 1}, {LEAST, LEAST, 1, 2}, {1, 2, LEAST, LEAST}, {0, 0, -1, 0}
        });
    }

    private static void leavesRest(Due due, OutcomeRows outcomes) {
        due.stands(PROMISE, MOD);
        outcomes.are(Codes.MOD, new long[][] {
            {10, 99, 2, 5, 0, 4}, {0, 3, 2, 50, 0, 3}, {0, 4, 2, 5, 0, 4}, {0, 5, 2, 5, 0, 4}, {0, 3, 2, 5, 0, 3},
            {10, 99, 1, 1, 0, 0}, {0, 99, 1, 2, 0, 1}, {10, 10, 9, 11, 0, 10},
            {0, GREATEST, 1, GREATEST, 0, GREATEST - 1}, {0, GREATEST - 1, 1, GREATEST, 0, GREATEST - 1},
            {0, 0, 1, 2, 0, 0}
        });
    }

    private static void leavesRestByWhatMayBe0(Due due, OutcomeRows outcomes) {
        due.stands(PROMISE, MOD + "; " + MOD_BY_0);
        outcomes.are(Codes.MOD, new long[][] {
            {10, 99, 0, 5, 0, 99}, {10, 99, 0, 0, 0, 99}, {0, 99, 0, 5, 0, 99}, {7, 7, 0, 5, 0, 7}, {0, 0, 0, 5, 0, 0},
            {0, GREATEST, 0, GREATEST, 0, GREATEST}, {10, 99, 0, GREATEST, 0, 99}
        });
    }

    private static void leavesRestBelow0(Due due, OutcomeRows outcomes) {
        due.stands(PROMISE, MOD + "; " + MOD_BY_0 + "; else ALL.");
        outcomes.areAll(Codes.MOD, new long[][] {
            {-1, 99, 2, 5}, {10, 99, -1, 5}, {-1, 99, 0, 5}, {-1, 99, 0, 0}, {-9, -5, -3, -2}, {-1, -1, 1, 2},
            {5, 9, -1, -1}, {LEAST, GREATEST, 1, 1}, {LEAST, LEAST, 1, 2}, {1, 2, LEAST, LEAST}, {0, 0, -1, 0}
        });
    }

    private static void turnsSign(Due due, OutcomeRows outcomes) {
        due.stands(PROMISE, "NEG: as 0 SUB x (ALL, if an end is the least long).");
        outcomes.are(Codes.NEG, new long[][] {
            {-5, 9, 3, 4, -9, 5}, {LEAST + 1, 9, 3, 4, -9, GREATEST}, {LEAST + 1, GREATEST, 3, 4, LEAST + 1, GREATEST},
            {0, GREATEST, 3, 4, LEAST + 1, 0}, {0, 1, LEAST, LEAST, -1, 0}
        });
        outcomes.areAll(Codes.NEG, new long[][] {
            {LEAST, 9, 3, 4}, {LEAST, LEAST + 1, 3, 4}, {LEAST, GREATEST, 3, 4}, {LEAST, 0, 0, 0}
        });
    }

    private static void takesAll(Due due, OutcomeRows outcomes) {
        due.stands(PROMISE, "ALL: the least long to the greatest.");
        for (int instruction = 0; instruction < 13; instruction++) {
            outcomes.areAll(instruction, new long[][] {{LEAST, GREATEST, LEAST, GREATEST}});
        }
    }
}
