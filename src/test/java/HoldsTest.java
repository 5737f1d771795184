/** Promise 6: holds. */
final class HoldsTest {
    // x, y, and a 1 or 0 for each of the conditions 0 .. 10
    private static final String[][] ROWS = {
        {"4", "4", "10010101011"}, {"3", "4", "01110011000"}, {"5", "4", "01001100111"}, {"0", "0", "10010101010"},
        {"-1", "1", "01001111001"}, {"1", "-1", "01110000111"}, {"-1", "-1", "10010101011"},
        {"-2", "-1", "01110011001"}, {"8", "7", "01001100110"}, {"0", "-1", "01110000110"},
        {"-9223372036854775808", "9223372036854775807", "01001111000"},
        {"9223372036854775807", "-9223372036854775808", "01110000110"},
        {"-9223372036854775808", "-1", "01110011001"}, {"4294967296", "1", "01001100110"}
    };

    public static void main(String[] args) {
        Due due = new Due();
        RangeBox box = new RangeBox();
        box.put(1, 2, 3);
        for (String[] row : ROWS) {
            for (int condition = 0; condition < 11; condition++) {
                look(due, box, condition, Long.parseLong(row[0]), Long.parseLong(row[1]), row[2].charAt(condition) == '1');
            }
        }
        for (int condition : new int[] {-1, 11, 12, Integer.MIN_VALUE, Integer.MAX_VALUE}) {
            due.bad("holds(" + condition + ", 4, 4)", () -> box.holds(condition, 4, 4));
        }
        due.range("holds changes nothing", box, 1, 2, 3);
        for (long x : Edges.NUMBERS) {
            for (long y : Edges.NUMBERS) {
                RangeBox fresh = new RangeBox();
                for (int condition = 0; condition < 11; condition++) {
                    look(due, fresh, condition, x, y, Model.holds(condition, x, y));
                }
            }
        }
        due.end();
    }

    private static void look(Due due, RangeBox box, int condition, long x, long y, boolean want) {
        due.same("holds(" + condition + ", " + x + ", " + y + ")", box.holds(condition, x, y), want);
    }
}
