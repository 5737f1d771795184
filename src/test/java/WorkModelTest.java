/** Promise 3: every outcome is the model's, and holds what the instruction makes of numbers in the ranges. */
final class WorkModelTest {
    public static void main(String[] args) {
        Due due = new Due();
        due.stands("promise 3, work", "whatever numbers are in two ranges, what the instruction makes of these is "
            + "in the range that's told");
        Edges edges = new Edges(3);
        long[][] ranges = Edges.ranges(3);
        for (long[] x : ranges) {
            for (long[] y : ranges) {
                look(due, edges, x, y);
            }
        }
        for (int i = 0; i < 20000; i++) {
            look(due, edges, edges.range(), edges.range());
        }
        due.end();
    }

    private static void look(Due due, Edges edges, long[] x, long[] y) {
        RangeBox box = new RangeBox();
        box.put(0, x[0], x[1]);
        box.put(1, y[0], y[1]);
        for (int instruction = 0; instruction < 13; instruction++) {
            look(due, edges, box, instruction, x, y, false);
            look(due, edges, box, instruction, x, y, true);
        }
    }

    private static void look(Due due, Edges edges, RangeBox box, int instruction, long[] x, long[] y, boolean narrow) {
        box.work(2, instruction, 0, 1, narrow);
        long low = box.low(2);
        long high = box.high(2);
        long[] want = Model.outcome(instruction, x, y, narrow);
        long a = edges.within(x);
        long b = edges.within(y);
        long made = box.exact(instruction, a, b, narrow);
        boolean held = low <= made && made <= high;
        if (low == want[0] && high == want[1] && held) {
            due.same("", true, true);
            return;
        }
        String call = "work(2, " + instruction + ", " + x[0] + " .. " + x[1] + ", " + y[0] + " .. " + y[1]
            + ", " + narrow + ")";
        due.range(call, box, 2, want[0], want[1]);
        due.same(call + " holds what is made of " + a + " and " + b, held, true);
    }
}
