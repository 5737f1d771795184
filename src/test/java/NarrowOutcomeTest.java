/** Promise 3: the OUTCOMES in 32 bits. */
final class NarrowOutcomeTest {
    private static final String PROMISE = "promise 3, work";
    private static final long LEAST = Due.LEAST;
    private static final long GREATEST = Due.GREATEST;
    private static final long NARROW = Due.NARROW;
    private static final long TOO_WIDE = 0x100000000L;

    public static void main(String[] args) {
        Due due = new Due();
        OutcomeRows outcomes = new OutcomeRows(due, true);
        due.run(() -> narrowRangesStay(due, outcomes));
        due.run(() -> constsAreCut(due, outcomes));
        due.run(() -> othersBecomeAllNarrow(due, outcomes));
        due.run(() -> thenIsAsAbove(due, outcomes));
        due.run(() -> shiftsByFiveBits(due, outcomes));
        due.run(() -> signsAreNotFollowed(due, outcomes));
        due.run(() -> outcomesAreCut(due, outcomes));
        due.run(() -> constsComeFirst(due, outcomes));
        due.end();
    }

    private static void narrowRangesStay(Due due, OutcomeRows outcomes) {
        due.stands(PROMISE, "x and y are cut first (a RANGE in 0 .. 2^32 - 1 stays");
        outcomes.are(Codes.MOVE, new long[][] {
            {1, 2, 3, NARROW, 3, NARROW}, {1, 2, 0, NARROW, 0, NARROW}, {1, 2, 0, 1, 0, 1},
            {-1, 2, 0, NARROW - 1, 0, NARROW - 1}, {1, 2, 0x7fffffffL, 0x80000000L, 0x7fffffffL, 0x80000000L}
        });
        outcomes.are(Codes.ADD, new long[][] {
            {3, 9, 0, 0, 3, 9}, {3, NARROW, 0, 0, 3, NARROW}, {0, 0, 3, NARROW, 3, NARROW}
        });
        outcomes.are(Codes.AND, new long[][] {{0, 5, 0, NARROW, 0, 5}, {0, NARROW, 0, 5, 0, 5}});
    }

    private static void constsAreCut(Due due, OutcomeRows outcomes) {
        due.stands(PROMISE, "a CONST is cut");
        outcomes.are(Codes.ADD, new long[][] {
            {1, 9, 0x100000001L, 0x100000001L, 2, 10}, {0x100000001L, 0x100000001L, 1, 9, 2, 10},
            {1, 9, LEAST, LEAST, 1, 9}, {1, 9, TOO_WIDE, TOO_WIDE, 1, 9}, {0, 1, -2, -2, 0xfffffffeL, NARROW}
        });
        outcomes.are(Codes.MUL, new long[][] {{-5, 9, 0x300000000L, 0x300000000L, 0, 0}});
        outcomes.are(Codes.DIV, new long[][] {{10, 99, -1, -1, 0, 0}, {-1, -1, 1, 2, 0x7fffffffL, NARROW}});
        outcomes.are(Codes.MOD, new long[][] {{10, 99, TOO_WIDE, TOO_WIDE, 0, 99}, {0, NARROW, -1, -1, 0, NARROW - 1}});
        outcomes.are(Codes.AND, new long[][] {
            {-3, 30, 0x700000005L, 0x700000005L, 0, 5}, {GREATEST, GREATEST, 0, 7, 0, 7}
        });
        outcomes.are(Codes.OR, new long[][] {
            {3, 9, 0x100000010L, 0x100000010L, 16, 31}, {-1, -1, 3, 9, NARROW, NARROW}
        });
        outcomes.are(Codes.XOR, new long[][] {{3, 9, 0x100000010L, 0x100000010L, 0, 31}});
    }

    private static void othersBecomeAllNarrow(Due due, OutcomeRows outcomes) {
        due.stands(PROMISE, "others become 0 .. 2^32 - 1");
        outcomes.areAll(Codes.MOVE, new long[][] {
            {1, 2, -3, 4}, {1, 2, -1, 0}, {1, 2, 0, TOO_WIDE}, {1, 2, 3, TOO_WIDE}, {1, 2, TOO_WIDE, TOO_WIDE + 5},
            {1, 2, -9, -5}, {1, 2, LEAST, GREATEST}, {1, 2, -1, NARROW}
        });
        outcomes.are(Codes.RIGHT, new long[][] {
            {-1, 9, 4, 4, 0, 0x0fffffffL}, {5, TOO_WIDE, 4, 4, 0, 0x0fffffffL},
            {TOO_WIDE, TOO_WIDE + 5, 4, 4, 0, 0x0fffffffL}, {-9, -5, 4, 4, 0, 0x0fffffffL}
        });
        outcomes.are(Codes.DIV, new long[][] {
            {5, 9, 2, TOO_WIDE, 0, 9}, {5, 9, -1, 5, 0, 9}, {5, TOO_WIDE, 5, 5, 0, 858993459}
        });
        outcomes.are(Codes.AND, new long[][] {{-3, 30, -5, 20, 0, NARROW}, {TOO_WIDE, TOO_WIDE + 1, 3, 9, 0, 9}});
        outcomes.are(Codes.OR, new long[][] {{-1, 9, 5, 20, 5, NARROW}, {5, 20, 9, TOO_WIDE, 5, NARROW}});
    }

    private static void thenIsAsAbove(Due due, OutcomeRows outcomes) {
        due.stands(PROMISE, "others become 0 .. 2^32 - 1); then as above");
        outcomes.are(Codes.ADD, new long[][] {{5, 9, 3, 4, 8, 13}});
        outcomes.are(Codes.SUB, new long[][] {{15, 19, 3, 4, 11, 16}});
        outcomes.are(Codes.MUL, new long[][] {{5, 9, 3, 4, 15, 36}, {0, NARROW, 0, 0, 0, 0}});
        outcomes.are(Codes.DIV, new long[][] {
            {10, 99, 2, 5, 2, 49}, {10, 99, 0, 5, 0, 99}, {-5, 9, 3, 4, 0, 1431655765}
        });
        outcomes.are(Codes.MOD, new long[][] {{10, 99, 2, 5, 0, 4}, {10, 99, 0, 5, 0, 99}, {-5, 9, 3, 4, 0, 3}});
        outcomes.are(Codes.AND, new long[][] {{3, 9, 5, 20, 0, 9}});
        outcomes.are(Codes.OR, new long[][] {{3, 9, 5, 20, 5, 31}, {0, 0x80000000L, 5, 6, 5, NARROW}});
        outcomes.are(Codes.XOR, new long[][] {{3, 9, 5, 20, 0, 31}, {-1, 9, 5, 20, 0, NARROW}});
        outcomes.are(Codes.LEFT, new long[][] {{3, 9, 4, 4, 48, 144}, {3, 9, 0, 0, 3, 9}});
        outcomes.are(Codes.RIGHT, new long[][] {{8, 99, 2, 2, 2, 24}, {8, 99, 2, 3, 0, 99}, {-8, 99, 2, 3, 0, NARROW}});
    }

    private static void shiftsByFiveBits(Due due, OutcomeRows outcomes) {
        due.stands(PROMISE, "then as above (shifts by 5 bits)");
        outcomes.are(Codes.LEFT, new long[][] {
            {3, 9, 32, 32, 3, 9}, {3, 9, 36, 36, 48, 144}, {0, 1, 31, 31, 0, 0x80000000L},
            {0, 1, 63, 63, 0, 0x80000000L}, {0, 1, -1, -1, 0, 0x80000000L}, {3, 9, 64, 64, 3, 9}, {3, 9, -32, -32, 3, 9}
        });
        outcomes.are(Codes.RIGHT, new long[][] {
            {8, 99, 32, 32, 8, 99}, {8, 99, 34, 34, 2, 24}, {-8, 99, 31, 31, 0, 1}, {-8, 99, 32, 32, 0, NARROW},
            {-8, 99, 63, 63, 0, 1}, {8, 99, -30, -30, 2, 24}
        });
    }

    private static void signsAreNotFollowed(Due due, OutcomeRows outcomes) {
        due.stands(PROMISE, "but SIGNED RIGHT and NEG: 0 .. 2^32 - 1");
        outcomes.areAll(Codes.SIGNED_RIGHT, new long[][] {
            {8, 99, 2, 2}, {8, 99, 0, 0}, {8, 8, 2, 3}, {0, 1, 31, 31}, {-8, -4, 1, 1}, {0, 0, 0, 1}, {8, 99, 32, 32}
        });
        outcomes.areAll(Codes.NEG, new long[][] {{5, 9, 3, 3}, {0, 1, 0, 0}, {-9, -5, 3, 4}, {LEAST, GREATEST, 3, 4}});
    }

    private static void outcomesAreCut(Due due, OutcomeRows outcomes) {
        due.stands(PROMISE, "the outcome is cut likewise.");
        outcomes.are(Codes.ADD, new long[][] {{0, 9, 1, NARROW - 9, 1, NARROW}});
        outcomes.areAll(Codes.ADD, new long[][] {{0, 9, 1, NARROW - 8}, {1, 9, -1, -1}, {5, NARROW, 5, NARROW}});
        outcomes.are(Codes.SUB, new long[][] {{5, 9, 1, 5, 0, 8}});
        outcomes.areAll(Codes.SUB, new long[][] {{5, 9, 1, 6}, {0, 1, NARROW, NARROW}});
        outcomes.are(Codes.MUL, new long[][] {{2, 0xffff, 3, 0x10001, 6, NARROW}});
        outcomes.areAll(Codes.MUL, new long[][] {{2, 0x10000, 3, 0x10000}, {3, NARROW, 3, NARROW}});
        outcomes.are(Codes.LEFT, new long[][] {{0, 0x7fffffffL, 1, 1, 0, 0xfffffffeL}});
        outcomes.areAll(Codes.LEFT, new long[][] {{0, 2, 31, 31}, {1, 0x80000000L, 1, 1}, {3, 9, 4, 5}, {-1, 9, 0, 0}});
    }

    private static void constsComeFirst(Due due, OutcomeRows outcomes) {
        due.stands(PROMISE, "(CONSTS come first here, too: of them the narrow instruction's itself.)");
        outcomes.are(Codes.MOVE, new long[][] {
            {1, 2, -3, -3, 0xfffffffdL, 0xfffffffdL}, {1, 2, TOO_WIDE, TOO_WIDE, 0, 0}
        });
        outcomes.are(Codes.ADD, new long[][] {
            {NARROW, NARROW, 1, 1, 0, 0}, {-1, -1, -1, -1, 0xfffffffeL, 0xfffffffeL}
        });
        outcomes.are(Codes.SUB, new long[][] {{0, 0, 1, 1, NARROW, NARROW}, {LEAST, LEAST, 1, 1, NARROW, NARROW}});
        outcomes.are(Codes.MUL, new long[][] {
            {NARROW, NARROW, NARROW, NARROW, 1, 1}, {0x10000, 0x10000, 0x10000, 0x10000, 0, 0}
        });
        outcomes.are(Codes.DIV, new long[][] {
            {-1, -1, 2, 2, 0x7fffffffL, 0x7fffffffL}, {9, 9, TOO_WIDE, TOO_WIDE, 0, 0}
        });
        outcomes.are(Codes.MOD, new long[][] {
            {-1, -1, 10, 10, 5, 5}, {-5, -5, TOO_WIDE, TOO_WIDE, 0xfffffffbL, 0xfffffffbL}
        });
        outcomes.are(Codes.AND, new long[][] {{-1, -1, -1, -1, NARROW, NARROW}});
        outcomes.are(Codes.OR, new long[][] {{-4, -4, 3, 3, NARROW, NARROW}, {4, 4, 1, 1, 5, 5}});
        outcomes.are(Codes.XOR, new long[][] {{-1, -1, 1, 1, 0xfffffffeL, 0xfffffffeL}});
        outcomes.are(Codes.LEFT, new long[][] {{3, 3, 31, 31, 0x80000000L, 0x80000000L}, {1, 1, 32, 32, 1, 1}});
        outcomes.are(Codes.RIGHT, new long[][] {
            {-1, -1, 1, 1, 0x7fffffffL, 0x7fffffffL}, {-1, -1, 32, 32, NARROW, NARROW}
        });
        outcomes.are(Codes.SIGNED_RIGHT, new long[][] {
            {-8, -8, 2, 2, 0xfffffffeL, 0xfffffffeL}, {0x80000000L, 0x80000000L, 31, 31, NARROW, NARROW},
            {8, 8, 2, 2, 2, 2}
        });
        outcomes.are(Codes.NEG, new long[][] {
            {5, 5, 3, 4, 0xfffffffbL, 0xfffffffbL}, {0, 0, 3, 4, 0, 0}, {TOO_WIDE, TOO_WIDE, 3, 4, 0, 0},
            {LEAST, LEAST, 3, 4, 0, 0}
        });
    }
}
