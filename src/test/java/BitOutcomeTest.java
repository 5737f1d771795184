/** Promise 3: the OUTCOMES of the instructions on bits, in 64 bits. */
final class BitOutcomeTest {
    private static final String PROMISE = "promise 3, work";
    private static final long LEAST = Due.LEAST;
    private static final long GREATEST = Due.GREATEST;
    private static final long HALF = 0x4000000000000000L;
    private static final String AND = "AND: one low isn't below 0: 0 .. that high";
    private static final String AND_BOTH = AND + " (both: the lesser)";
    private static final String JOINED = "OR, XOR: both lows not below 0: 0 (OR: the greater low) .. "
        + "the least 2^k - 1 that isn't below a high";
    private static final String LEFT = "LEFT: y CONST, x.low not below 0, and x.high shifted is right as a long "
        + "without loss: both ends shifted";
    private static final String RIGHT = "RIGHT: y CONST: x.low not below 0: both ends shifted";
    private static final String RIGHT_BY_0 = "else, by 0: x";
    private static final String RIGHT_BELOW_0 = "else 0 .. -1 shifted so";
    private static final String RIGHT_BY_ANY = "y no CONST: x.low not below 0: 0 .. x.high";
    private static final String SIGNED_RIGHT = "SIGNED RIGHT: y CONST: both ends shifted";

    public static void main(String[] args) {
        Due due = new Due();
        OutcomeRows outcomes = new OutcomeRows(due, false);
        due.run(() -> andsOneNotBelow0(due, outcomes));
        due.run(() -> andsBothNotBelow0(due, outcomes));
        due.run(() -> andsBelow0(due, outcomes));
        due.run(() -> ors(due, outcomes));
        due.run(() -> xors(due, outcomes));
        due.run(() -> joinsBelow0(due, outcomes));
        due.run(() -> shiftsLeft(due, outcomes));
        due.run(() -> losesShiftingLeft(due, outcomes));
        due.run(() -> shiftsRight(due, outcomes));
        due.run(() -> shiftsRightBy0(due, outcomes));
        due.run(() -> shiftsRightBelow0(due, outcomes));
        due.run(() -> shiftsRightByAny(due, outcomes));
        due.run(() -> shiftsRightBelow0ByAny(due, outcomes));
        due.run(() -> shiftsSignedRight(due, outcomes));
        due.run(() -> shiftsSignedRightByAny(due, outcomes));
        due.run(() -> shiftsBySixBits(due, outcomes));
        due.end();
    }

    private static void andsOneNotBelow0(Due due, OutcomeRows outcomes) {
        due.stands(PROMISE, AND);
        outcomes.are(Codes.AND, new long[][] {
            {3, 30, -5, 20, 0, 30}, {-3, 30, 5, 20, 0, 20}, {0, 30, -1, 40, 0, 30}, {-1, 30, 0, 40, 0, 40},
            {0, 30, -1, 20, 0, 30}, {-1, 20, 0, 30, 0, 30},
            {-3, 30, 0, 0, 0, 0}, {LEAST, GREATEST, 0, 9, 0, 9}, {0, GREATEST, LEAST, -1, 0, GREATEST},
            {5, 5, -9, -1, 0, 5}
        });
    }

    private static void andsBothNotBelow0(Due due, OutcomeRows outcomes) {
        due.stands(PROMISE, AND_BOTH);
        outcomes.are(Codes.AND, new long[][] {
            {3, 9, 5, 20, 0, 9}, {3, 30, 5, 20, 0, 20}, {0, 5, 0, 5, 0, 5}, {0, 0, 0, 9, 0, 0},
            {0, GREATEST, 0, 1, 0, 1}, {0, GREATEST, 0, GREATEST, 0, GREATEST}
        });
    }

    private static void andsBelow0(Due due, OutcomeRows outcomes) {
        due.stands(PROMISE, AND_BOTH + "; else ALL.");
        outcomes.areAll(Codes.AND, new long[][] {
            {-3, 30, -5, 20}, {-1, 30, -1, 20}, {-9, -5, -3, -2}, {-1, -1, -3, 5}, {-3, 5, LEAST, LEAST},
            {LEAST, 0, LEAST, 0}
        });
    }

    private static void ors(Due due, OutcomeRows outcomes) {
        due.stands(PROMISE, JOINED);
        outcomes.are(Codes.OR, new long[][] {
            {3, 9, 5, 20, 5, 31}, {5, 20, 3, 9, 5, 31}, {6, 14, 5, 5, 6, 15}, {6, 15, 5, 5, 6, 15},
            {6, 16, 5, 5, 6, 31}, {5, 5, 6, 15, 6, 15}, {5, 5, 6, 16, 6, 31}, {0, 0, 0, 1, 0, 1}, {0, 1, 0, 1, 0, 1},
            {0, 2, 0, 1, 0, 3}, {0, GREATEST, 4, 5, 4, GREATEST}, {0, HALF, 4, 5, 4, GREATEST},
            {0, HALF - 1, 4, 5, 4, HALF - 1}, {0, 1, 0, GREATEST, 0, GREATEST}, {0, Due.NARROW, 0, 1, 0, Due.NARROW},
            {0, Due.NARROW + 1, 0, 1, 0, 0x1ffffffffL}
        });
    }

    private static void xors(Due due, OutcomeRows outcomes) {
        due.stands(PROMISE, JOINED);
        outcomes.are(Codes.XOR, new long[][] {
            {3, 9, 5, 20, 0, 31}, {5, 20, 3, 9, 0, 31}, {3, 7, 8, 9, 0, 15}, {0, 7, 0, 7, 0, 7}, {0, 8, 0, 7, 0, 15},
            {0, 7, 0, 8, 0, 15}, {0, 0, 0, 1, 0, 1}, {0, HALF - 1, 4, 5, 0, HALF - 1}, {0, HALF, 4, 5, 0, GREATEST},
            {0, GREATEST, 0, GREATEST, 0, GREATEST}, {4, 5, 0, GREATEST, 0, GREATEST}
        });
    }

    private static void joinsBelow0(Due due, OutcomeRows outcomes) {
        due.stands(PROMISE, JOINED + "; else ALL.");
        for (int instruction : new int[] {Codes.OR, Codes.XOR}) {
            outcomes.areAll(instruction, new long[][] {
                {-1, 9, 5, 20}, {3, 9, -1, 20}, {-9, -5, -3, -2}, {-1, -1, 0, 5}, {0, 5, -1, -1},
                {LEAST, GREATEST, 0, 0}, {0, 0, LEAST, GREATEST}
            });
        }
    }

    private static void shiftsLeft(Due due, OutcomeRows outcomes) {
        due.stands(PROMISE, LEFT);
        outcomes.are(Codes.LEFT, new long[][] {
            {3, 9, 4, 4, 48, 144}, {0, 9, 0, 0, 0, 9}, {0, 1, 62, 62, 0, HALF}, {0, GREATEST, 0, 0, 0, GREATEST},
            {0, HALF - 1, 1, 1, 0, GREATEST - 1}, {1, 0x7fffffffL, 32, 32, 0x100000000L, 0x7fffffff00000000L}
        });
    }

    private static void losesShiftingLeft(Due due, OutcomeRows outcomes) {
        due.stands(PROMISE, LEFT + "; else ALL.");
        outcomes.areAll(Codes.LEFT, new long[][] {
            {3, 9, 4, 5}, {3, 9, 0, 1}, {3, 3, 4, 5}, {3, 9, 0, 64}, {0, 0, 0, 1},
            {-1, 9, 4, 4}, {-1, 9, 0, 0}, {-9, -5, 1, 1},
            {0, 1, 63, 63}, {0, 2, 63, 63}, {0, 2, 62, 62}, {0, GREATEST, 1, 1}, {0, HALF, 1, 1}, {0, HALF, 2, 2},
            {0, 0x80000000L, 32, 32}, {0, 0x100000000L, 32, 32}, {0, 0x100000001L, 32, 32}
        });
    }

    private static void shiftsRight(Due due, OutcomeRows outcomes) {
        due.stands(PROMISE, RIGHT);
        outcomes.are(Codes.RIGHT, new long[][] {
            {8, 99, 2, 2, 2, 24}, {8, 99, 0, 0, 8, 99}, {0, GREATEST, 63, 63, 0, 0}, {0, GREATEST, 62, 62, 0, 1},
            {0, GREATEST, 1, 1, 0, HALF - 1}, {0, 3, 1, 1, 0, 1}
        });
    }

    private static void shiftsRightBy0(Due due, OutcomeRows outcomes) {
        due.stands(PROMISE, RIGHT + "; " + RIGHT_BY_0);
        outcomes.are(Codes.RIGHT, new long[][] {
            {-8, 99, 0, 0, -8, 99}, {-1, 0, 0, 0, -1, 0}, {LEAST, GREATEST, 0, 0, LEAST, GREATEST},
            {LEAST, -1, 0, 0, LEAST, -1}, {-8, 99, 64, 64, -8, 99}, {-8, 99, -64, -64, -8, 99}
        });
    }

    private static void shiftsRightBelow0(Due due, OutcomeRows outcomes) {
        due.stands(PROMISE, RIGHT + "; " + RIGHT_BY_0 + "; " + RIGHT_BELOW_0);
        outcomes.are(Codes.RIGHT, new long[][] {
            {-8, 99, 1, 1, 0, GREATEST}, {-8, 99, 2, 2, 0, HALF - 1}, {-8, -4, 63, 63, 0, 1}, {-1, 0, 63, 63, 0, 1},
            {-8, -4, -1, -1, 0, 1}, {LEAST, GREATEST, 32, 32, 0, Due.NARROW}, {-8, 99, 65, 65, 0, GREATEST}
        });
    }

    private static void shiftsRightByAny(Due due, OutcomeRows outcomes) {
        due.stands(PROMISE, RIGHT_BELOW_0 + "; " + RIGHT_BY_ANY);
        outcomes.are(Codes.RIGHT, new long[][] {
            {8, 99, 2, 3, 0, 99}, {0, 99, 0, 63, 0, 99}, {8, 8, 1, 2, 0, 8}, {8, 99, 64, 128, 0, 99},
            {8, 99, -1, 0, 0, 99}, {0, GREATEST, LEAST, GREATEST, 0, GREATEST}
        });
    }

    private static void shiftsRightBelow0ByAny(Due due, OutcomeRows outcomes) {
        due.stands(PROMISE, RIGHT_BELOW_0 + "; " + RIGHT_BY_ANY + "; else ALL.");
        outcomes.areAll(Codes.RIGHT, new long[][] {{-1, 99, 2, 3}, {-8, 99, 0, 64}, {-1, -1, 1, 2}, {-9, -5, 1, 2}});
    }

    private static void shiftsSignedRight(Due due, OutcomeRows outcomes) {
        due.stands(PROMISE, SIGNED_RIGHT);
        outcomes.are(Codes.SIGNED_RIGHT, new long[][] {
            {-8, 99, 2, 2, -2, 24}, {8, 99, 2, 2, 2, 24}, {-8, 99, 0, 0, -8, 99}, {LEAST, GREATEST, 63, 63, -1, 0},
            {LEAST, GREATEST, 1, 1, -HALF, HALF - 1}, {-1, 1, 1, 1, -1, 0}, {-8, -4, 63, 63, -1, -1}
        });
    }

    private static void shiftsSignedRightByAny(Due due, OutcomeRows outcomes) {
        due.stands(PROMISE, SIGNED_RIGHT + "; else as RIGHT.");
        outcomes.are(Codes.SIGNED_RIGHT, new long[][] {
            {8, 99, 2, 3, 0, 99}, {0, 99, 0, 63, 0, 99}, {8, 8, 1, 2, 0, 8}, {0, GREATEST, LEAST, GREATEST, 0, GREATEST}
        });
        outcomes.areAll(Codes.SIGNED_RIGHT, new long[][] {
            {-1, 99, 2, 3}, {-8, -8, 1, 2}, {-9, -5, 1, 2}, {-8, 99, 0, 64}
        });
    }

    private static void shiftsBySixBits(Due due, OutcomeRows outcomes) {
        due.stands(PROMISE, "shifts by y's lowest 6 bits");
        outcomes.are(Codes.LEFT, new long[][] {
            {3, 9, 64, 64, 3, 9}, {3, 9, 66, 66, 12, 36}, {0, 1, 126, 126, 0, HALF},
            {0, GREATEST, -64, -64, 0, GREATEST}, {3, 9, LEAST, LEAST, 3, 9}, {3, 9, 0x100000000L, 0x100000000L, 3, 9}
        });
        outcomes.areAll(Codes.LEFT, new long[][] {{0, 1, -1, -1}, {0, 1, 127, 127}});
        outcomes.are(Codes.RIGHT, new long[][] {
            {8, 99, 64, 64, 8, 99}, {8, 99, 66, 66, 2, 24}, {8, 99, -62, -62, 2, 24}
        });
        outcomes.are(Codes.SIGNED_RIGHT, new long[][] {
            {-8, 99, 64, 64, -8, 99}, {-8, 99, 66, 66, -2, 24}, {-8, 99, -62, -62, -2, 24}, {-8, 99, -1, -1, -1, 0}
        });
    }
}
