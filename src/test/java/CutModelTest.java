/** Promise 5: every cut is the model's, and loses no two numbers of which the condition holds. */
final class CutModelTest {
    public static void main(String[] args) {
        Due due = new Due();
        due.stands("promise 5, cut", "conditions cut ranges without losing a number for which they hold");
        Edges edges = new Edges(5);
        long[][] ranges = Edges.ranges(3);
        for (long[] x : ranges) {
            for (long[] y : ranges) {
                look(due, edges, x, y);
            }
        }
        for (int i = 0; i < 20000; i++) {
            look(due, edges, edges.range(), edges.range());
        }
        due.end();
    }

    private static void look(Due due, Edges edges, long[] x, long[] y) {
        RangeBox box = new RangeBox();
        for (int condition = 0; condition < 11; condition++) {
            look(due, edges, box, condition, x, y, true);
            look(due, edges, box, condition, x, y, false);
        }
    }

    private static void look(Due due, Edges edges, RangeBox box, int condition, long[] x, long[] y, boolean holds) {
        box.put(0, x[0], x[1]);
        box.put(1, y[0], y[1]);
        boolean done = box.cut(condition, 0, 1, holds);
        long[] model = Model.cut(condition, x, y, holds);
        long[] want = model != null ? model : new long[] {x[0], x[1], y[0], y[1]};
        long[] got = {box.low(0), box.high(0), box.low(1), box.high(1)};
        long a = edges.within(x);
        long b = edges.within(y);
        boolean kept = done && got[0] <= a && a <= got[1] && got[2] <= b && b <= got[3];
        boolean lost = !kept && box.holds(condition, a, b) == holds;
        if (done == (model != null) && java.util.Arrays.equals(got, want) && !lost) {
            due.same("", true, true);
            return;
        }
        String call = "cut(" + condition + ", " + x[0] + " .. " + x[1] + ", " + y[0] + " .. " + y[1]
            + ", " + holds + ")";
        due.same(call, done, model != null);
        due.range(call, box, 0, want[0], want[1]);
        due.range(call, box, 1, want[2], want[3]);
        due.same(call + " loses " + a + " and " + b, lost, false);
    }
}
