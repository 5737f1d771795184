/** Promise 4: exact. DivideTest looks at the rows of DIV and MOD. */
final class ExactTest {
    private static final String PROMISE = "promise 4, exact";
    private static final boolean WIDE = false;
    private static final boolean SLIM = true;
    private static final long LEAST = Due.LEAST;
    private static final long GREATEST = Due.GREATEST;
    private static final long NARROW = Due.NARROW;
    private static final long HALF = 0x4000000000000000L;

    public static void main(String[] args) {
        Due due = new Due();
        due.run(() -> makesWhatTheInstructionMakes(due));
        due.run(() -> wraps(due));
        due.run(() -> shiftsBySixBits(due));
        due.run(() -> letsZeroIn(due));
        due.run(() -> letsSignIn(due));
        due.run(() -> turnsSign(due));
        due.run(() -> takesNarrowNumbers(due));
        due.run(() -> takesNarrowNumbersWithSign(due));
        due.run(() -> shiftsByFiveBits(due));
        due.run(() -> cutsNarrowOutcome(due));
        due.run(() -> refusesNoInstruction(due));
        due.run(() -> agreesWithModel(due));
        due.end();
    }

    /** Each row: x, y, what is due. */
    private static void look(Due due, int instruction, boolean narrow, long[][] rows) {
        RangeBox box = new RangeBox();
        box.put(0, 3, 9);
        for (long[] row : rows) {
            String call = "exact(" + instruction + ", " + row[0] + ", " + row[1] + ", " + narrow + ")";
            due.same(call, box.exact(instruction, row[0], row[1], narrow), row[2]);
        }
        due.range("exact changes nothing", box, 0, 3, 9);
    }

    private static void makesWhatTheInstructionMakes(Due due) {
        due.stands(PROMISE, "What the instruction itself makes of x and y");
        look(due, Codes.MOVE, WIDE, new long[][] {{5, -7, -7}, {-7, 5, 5}, {0, LEAST, LEAST}});
        look(due, Codes.ADD, WIDE, new long[][] {{5, -7, -2}});
        look(due, Codes.SUB, WIDE, new long[][] {{5, 7, -2}});
        look(due, Codes.MUL, WIDE, new long[][] {{-3, 7, -21}});
        look(due, Codes.DIV, WIDE, new long[][] {{17, 5, 3}});
        look(due, Codes.MOD, WIDE, new long[][] {{17, 5, 2}});
        look(due, Codes.AND, WIDE, new long[][] {{-4, 7, 4}, {12, 10, 8}});
        look(due, Codes.OR, WIDE, new long[][] {{-4, 3, -1}, {12, 10, 14}});
        look(due, Codes.XOR, WIDE, new long[][] {{-4, 3, -1}, {12, 10, 6}});
        look(due, Codes.LEFT, WIDE, new long[][] {{3, 4, 48}});
        look(due, Codes.RIGHT, WIDE, new long[][] {{99, 2, 24}});
        look(due, Codes.SIGNED_RIGHT, WIDE, new long[][] {{99, 2, 24}});
        look(due, Codes.NEG, WIDE, new long[][] {{5, 99, -5}});
    }

    private static void wraps(Due due) {
        due.stands(PROMISE, "All wrap");
        look(due, Codes.ADD, WIDE, new long[][] {
            {GREATEST, 1, LEAST}, {1, GREATEST, LEAST}, {LEAST, -1, GREATEST}, {LEAST, LEAST, 0},
            {GREATEST, GREATEST, -2}, {GREATEST, 0, GREATEST}, {GREATEST - 1, 1, GREATEST}
        });
        look(due, Codes.SUB, WIDE, new long[][] {
            {LEAST, 1, GREATEST}, {GREATEST, -1, LEAST}, {0, LEAST, LEAST}, {-1, LEAST, GREATEST}, {LEAST, GREATEST, 1}
        });
        look(due, Codes.MUL, WIDE, new long[][] {
            {GREATEST, 2, -2}, {LEAST, -1, LEAST}, {-1, LEAST, LEAST}, {0x100000000L, 0x100000000L, 0},
            {GREATEST, GREATEST, 1}
        });
        look(due, Codes.LEFT, WIDE, new long[][] {{1, 63, LEAST}, {3, 63, LEAST}, {2, 63, 0}, {-1, 63, LEAST}});
        look(due, Codes.NEG, WIDE, new long[][] {{LEAST, 99, LEAST}, {GREATEST, 99, LEAST + 1}});
    }

    private static void shiftsBySixBits(Due due) {
        due.stands(PROMISE, "shifts by y's lowest 6 bits");
        look(due, Codes.LEFT, WIDE, new long[][] {
            {3, 0, 3}, {3, 62, -HALF}, {3, 63, LEAST}, {3, 64, 3}, {3, 65, 6}, {3, -1, LEAST}, {3, -64, 3},
            {3, LEAST, 3}, {3, 0x100000000L, 3}, {3, 0x100000001L, 6}
        });
        look(due, Codes.RIGHT, WIDE, new long[][] {
            {8, 0, 8}, {-9, 64, -9}, {8, 66, 2}, {-1, -1, 1}, {8, -62, 2}, {8, GREATEST, 0}, {8, LEAST, 8}
        });
        look(due, Codes.SIGNED_RIGHT, WIDE, new long[][] {
            {-8, 0, -8}, {-8, 64, -8}, {-8, 66, -2}, {-8, -1, -1}, {8, -62, 2}, {-8, LEAST, -8}
        });
    }

    private static void letsZeroIn(Due due) {
        due.stands(PROMISE, "10 RIGHT (0 comes in)");
        look(due, Codes.RIGHT, WIDE, new long[][] {
            {-1, 1, GREATEST}, {-1, 63, 1}, {LEAST, 1, HALF}, {LEAST, 63, 1}, {GREATEST, 62, 1}
        });
        look(due, Codes.RIGHT, SLIM, new long[][] {{-1, 1, 0x7fffffffL}, {-1, 31, 1}, {0x80000000L, 31, 1}});
    }

    private static void letsSignIn(Due due) {
        due.stands(PROMISE, "11 SIGNED RIGHT");
        look(due, Codes.SIGNED_RIGHT, WIDE, new long[][] {
            {-8, 1, -4}, {-1, 63, -1}, {LEAST, 63, -1}, {LEAST, 1, -HALF}, {GREATEST, 62, 1}, {GREATEST, 63, 0},
            {-7, 1, -4}
        });
    }

    private static void turnsSign(Due due) {
        due.stands(PROMISE, "12 NEG (0 - x)");
        look(due, Codes.NEG, WIDE, new long[][] {
            {0, 5, 0}, {1, 5, -1}, {-1, 5, 1}, {LEAST + 1, 5, GREATEST}, {LEAST, 5, LEAST}
        });
        look(due, Codes.NEG, SLIM, new long[][] {{0, 5, 0}, {1, 5, NARROW}, {-1, 5, 1}, {0x80000000L, 5, 0x80000000L}});
    }

    private static void takesNarrowNumbers(Due due) {
        due.stands(PROMISE, "Narrow: of both the lowest 32 bits without sign");
        look(due, Codes.MOVE, SLIM, new long[][] {
            {5, -7, 0xfffffff9L}, {5, 0x100000000L, 0}, {5, NARROW, NARROW}, {5, LEAST, 0}
        });
        look(due, Codes.DIV, SLIM, new long[][] {
            {-1, 2, 0x7fffffffL}, {0x700000009L, 0x500000002L, 4}, {9, 0x100000000L, 0}, {NARROW, -1, 1}, {7, -1, 0}
        });
        look(due, Codes.MOD, SLIM, new long[][] {
            {-1, 10, 5}, {0x100000009L, 0x100000000L, 9}, {-5, 0, 0xfffffffbL}, {7, -1, 7}
        });
        look(due, Codes.RIGHT, SLIM, new long[][] {{0x100000008L, 2, 2}, {-1, 4, 0x0fffffffL}, {LEAST, 4, 0}});
        look(due, Codes.AND, SLIM, new long[][] {{-1, -1, NARROW}, {0x700000005L, 0x700000003L, 1}});
        look(due, Codes.OR, SLIM, new long[][] {{-4, 3, NARROW}, {0x100000000L, 3, 3}});
        look(due, Codes.XOR, SLIM, new long[][] {{0x10000000cL, 10, 6}, {-1, 0, NARROW}});
    }

    private static void takesNarrowNumbersWithSign(Due due) {
        due.stands(PROMISE, "(SIGNED RIGHT, with sign)");
        look(due, Codes.SIGNED_RIGHT, SLIM, new long[][] {
            {0x80000000L, 31, NARROW}, {0x7fffffffL, 30, 1}, {0x7fffffffL, 31, 0}, {-8, 1, 0xfffffffcL},
            {-0x100000000L, 4, 0}, {0x180000000L, 4, 0xf8000000L}, {LEAST, 4, 0}, {GREATEST, 4, NARROW},
            {-8, 0, 0xfffffff8L}, {0x17fffffffL, 0, 0x7fffffffL}
        });
    }

    private static void shiftsByFiveBits(Due due) {
        due.stands(PROMISE, "shifts by 5 bits, the outcome cut to 32 bits");
        look(due, Codes.LEFT, SLIM, new long[][] {
            {1, 31, 0x80000000L}, {1, 32, 1}, {3, 33, 6}, {1, -1, 0x80000000L}, {3, -32, 3}, {3, 64, 3}
        });
        look(due, Codes.RIGHT, SLIM, new long[][] {
            {-1, 31, 1}, {-1, 32, NARROW}, {8, 34, 2}, {-1, 63, 1}, {8, -30, 2}
        });
        look(due, Codes.SIGNED_RIGHT, SLIM, new long[][] {
            {-8, 32, 0xfffffff8L}, {-8, 33, 0xfffffffcL}, {-8, 63, NARROW}, {8, -30, 2}
        });
    }

    private static void cutsNarrowOutcome(Due due) {
        due.stands(PROMISE, "the outcome cut to 32 bits, without sign");
        look(due, Codes.ADD, SLIM, new long[][] {
            {NARROW, 1, 0}, {NARROW, 0, NARROW}, {0x7fffffffL, 1, 0x80000000L}, {GREATEST, 1, 0}
        });
        look(due, Codes.SUB, SLIM, new long[][] {{5, 7, 0xfffffffeL}, {0, 1, NARROW}, {0, NARROW, 1}});
        look(due, Codes.MUL, SLIM, new long[][] {
            {NARROW, NARROW, 1}, {0x10000, 0x10000, 0}, {0xffff, 0x10001, NARROW}
        });
        look(due, Codes.LEFT, SLIM, new long[][] {{3, 31, 0x80000000L}, {-1, 4, 0xfffffff0L}, {2, 31, 0}});
        look(due, Codes.NEG, SLIM, new long[][] {{5, 99, 0xfffffffbL}, {0x100000000L, 99, 0}});
    }

    private static void refusesNoInstruction(Due due) {
        due.stands(PROMISE, "(0 .. 12, else bad; narrow as told)");
        RangeBox box = new RangeBox();
        for (int none : Codes.NO_INSTRUCTIONS) {
            due.bad("exact(" + none + ", wide)", () -> box.exact(none, 1, 1, WIDE));
            due.bad("exact(" + none + ", narrow)", () -> box.exact(none, 1, 1, SLIM));
        }
        for (int instruction = 0; instruction < 13; instruction++) {
            int i = instruction;
            due.good("exact(" + i + ", wide)", () -> box.exact(i, 1, 0, WIDE));
            due.good("exact(" + i + ", narrow)", () -> box.exact(i, 1, 0, SLIM));
        }
    }

    private static void agreesWithModel(Due due) {
        due.stands(PROMISE, "What the instruction itself makes of x and y (0 .. 12, else bad; narrow as told).");
        for (long x : Edges.NUMBERS) {
            for (long y : Edges.NUMBERS) {
                lookWithModel(due, x, y);
            }
        }
        Edges edges = new Edges(4);
        for (int i = 0; i < 20000; i++) {
            lookWithModel(due, edges.number(), edges.number());
        }
    }

    private static void lookWithModel(Due due, long x, long y) {
        RangeBox box = new RangeBox();
        for (int instruction = 0; instruction < 13; instruction++) {
            String call = "exact(" + instruction + ", " + x + ", " + y + ", ";
            due.same(call + "false)", box.exact(instruction, x, y, WIDE), Model.exact(instruction, x, y, WIDE));
            due.same(call + "true)", box.exact(instruction, x, y, SLIM), Model.exact(instruction, x, y, SLIM));
        }
    }
}
