/** Looks at outcomes of work, where d is a range of its own, is x and is y. */
final class OutcomeRows {
    private static final int[][] PLACES = {{2, 0, 1}, {0, 0, 1}, {1, 0, 1}, {15, 14, 3}};

    private final Due due;
    private final boolean narrow;

    OutcomeRows(Due due, boolean narrow) {
        this.due = due;
        this.narrow = narrow;
    }

    /** Each row: x.low, x.high, y.low, y.high, the outcome's low, its high. */
    void are(int instruction, long[][] rows) {
        for (long[] row : rows) {
            look(instruction, row, row[4], row[5]);
        }
    }

    /** Each row: x.low, x.high, y.low, y.high; the outcome is all that there is, in 64 or 32 bits. */
    void areAll(int instruction, long[][] rows) {
        for (long[] row : rows) {
            look(instruction, row, narrow ? 0 : Due.LEAST, narrow ? Due.NARROW : Due.GREATEST);
        }
    }

    private void look(int instruction, long[] row, long low, long high) {
        String call = "work(.., " + instruction + ", " + row[0] + " .. " + row[1] + ", " + row[2] + " .. " + row[3]
            + ", " + narrow + ")";
        for (int[] place : PLACES) {
            RangeBox box = new RangeBox();
            box.put(place[1], row[0], row[1]);
            box.put(place[2], row[2], row[3]);
            box.work(place[0], instruction, place[1], place[2], narrow);
            due.range(call, box, place[0], low, high);
            if (place[0] != place[1]) {
                due.range(call + " keeps x", box, place[1], row[0], row[1]);
            }
            if (place[0] != place[2]) {
                due.range(call + " keeps y", box, place[2], row[2], row[3]);
            }
        }
    }
}
