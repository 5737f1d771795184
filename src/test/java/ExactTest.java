/** Promise 4: exact. */
final class ExactTest {
    private static final int WIDE = 0;
    private static final int SLIM = 1;
    // instruction, narrow or not, x, y, what is due
    private static final long[][] ROWS = {
        {0, WIDE, 5, -7, -7}, {0, SLIM, 5, -7, 0xfffffff9L},
        {1, WIDE, 5, -7, -2}, {1, WIDE, Due.GREATEST, 1, Due.LEAST}, {1, SLIM, 0xffffffffL, 1, 0},
        {2, WIDE, 5, 7, -2}, {2, WIDE, Due.LEAST, 1, Due.GREATEST}, {2, SLIM, 5, 7, 0xfffffffeL},
        {3, WIDE, -3, 7, -21}, {3, WIDE, Due.GREATEST, 2, -2}, {3, SLIM, 0xffffffffL, 0xffffffffL, 1},
        {4, WIDE, 17, 5, 3}, {4, WIDE, -1, 2, Due.GREATEST}, {4, WIDE, 1, -1, 0}, {4, WIDE, -1, -1, 1},
        {4, WIDE, -1, -2, 1}, {4, WIDE, Due.LEAST, -1, 0}, {4, WIDE, -5, 0, 0}, {4, SLIM, -1, 2, 0x7fffffffL},
        {4, SLIM, 9, 0x100000000L, 0}, {4, SLIM, 0x700000009L, 0x500000002L, 4},
        {5, WIDE, 17, 5, 2}, {5, WIDE, -1, 10, 5}, {5, WIDE, 3, -1, 3}, {5, WIDE, -1, -2, 1}, {5, WIDE, -5, 0, -5},
        {5, SLIM, -5, 0, 0xfffffffbL}, {5, SLIM, 0x100000009L, 0x100000000L, 9}, {5, SLIM, -1, 10, 5},
        {6, WIDE, -4, 7, 4}, {6, SLIM, -1, -1, 0xffffffffL},
        {7, WIDE, -4, 3, -1}, {7, SLIM, -4, 3, 0xffffffffL},
        {8, WIDE, -4, 3, -1}, {8, WIDE, 12, 10, 6}, {8, SLIM, 0x10000000cL, 10, 6},
        {9, WIDE, 1, 63, Due.LEAST}, {9, WIDE, 3, 64, 3}, {9, WIDE, 3, 65, 6}, {9, WIDE, 3, -1, Due.LEAST},
        {9, SLIM, 1, 32, 1}, {9, SLIM, 3, 31, 0x80000000L}, {9, SLIM, 3, 33, 6}, {9, SLIM, -1, 4, 0xfffffff0L},
        {10, WIDE, -1, 1, Due.GREATEST}, {10, WIDE, -1, 63, 1}, {10, WIDE, -9, 64, -9}, {10, WIDE, 8, 66, 2},
        {10, SLIM, -1, 1, 0x7fffffffL}, {10, SLIM, -1, 32, 0xffffffffL}, {10, SLIM, 0x100000008L, 34, 2},
        {11, WIDE, -8, 1, -4}, {11, WIDE, Due.LEAST, 63, -1}, {11, WIDE, -8, 64, -8}, {11, WIDE, 8, 1, 4},
        {11, SLIM, 0x80000000L, 31, 0xffffffffL}, {11, SLIM, 0x7fffffffL, 30, 1}, {11, SLIM, -8, 33, 0xfffffffcL},
        {11, SLIM, -0x100000000L, 4, 0}, {11, SLIM, 0x180000000L, 4, 0xf8000000L},
        {12, WIDE, 5, 99, -5}, {12, WIDE, Due.LEAST, 99, Due.LEAST}, {12, WIDE, 0, 0, 0},
        {12, SLIM, 5, 99, 0xfffffffbL}, {12, SLIM, 0x100000000L, 99, 0}, {12, SLIM, -1, 99, 1}
    };

    public static void main(String[] args) {
        Due due = new Due();
        RangeBox box = new RangeBox();
        box.put(0, 3, 9);
        for (long[] row : ROWS) {
            boolean narrow = row[1] == SLIM;
            String call = "exact(" + row[0] + ", " + row[2] + ", " + row[3] + ", " + narrow + ")";
            due.same(call, box.exact((int) row[0], row[2], row[3], narrow), row[4]);
        }
        for (int instruction : new int[] {-1, 13, 14, Integer.MIN_VALUE, Integer.MAX_VALUE}) {
            due.bad("exact(" + instruction + ", wide)", () -> box.exact(instruction, 1, 1, false));
            due.bad("exact(" + instruction + ", narrow)", () -> box.exact(instruction, 1, 1, true));
        }
        due.range("exact changes nothing", box, 0, 3, 9);
        agreesWithModel(due);
        due.end();
    }

    private static void agreesWithModel(Due due) {
        for (long x : Edges.NUMBERS) {
            for (long y : Edges.NUMBERS) {
                look(due, x, y);
            }
        }
        Edges edges = new Edges(4);
        for (int i = 0; i < 20000; i++) {
            look(due, edges.number(), edges.number());
        }
    }

    private static void look(Due due, long x, long y) {
        RangeBox box = new RangeBox();
        for (int instruction = 0; instruction < 13; instruction++) {
            String call = "exact(" + instruction + ", " + x + ", " + y + ", ";
            due.same(call + "false)", box.exact(instruction, x, y, false), Model.exact(instruction, x, y, false));
            due.same(call + "true)", box.exact(instruction, x, y, true), Model.exact(instruction, x, y, true));
        }
    }
}
