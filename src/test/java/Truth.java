/** Two numbers, and which of the conditions hold of them, written out by hand. */
final class Truth {
    static final Truth[] ROWS = {
        new Truth(4, 4, "10010101011"), new Truth(3, 4, "01110011000"), new Truth(5, 4, "01001100111"),
        new Truth(0, 0, "10010101010"), new Truth(-1, 1, "01001111001"), new Truth(1, -1, "01110000111"),
        new Truth(-1, -1, "10010101011"), new Truth(-2, -1, "01110011001"), new Truth(8, 7, "01001100110"),
        new Truth(0, -1, "01110000110"), new Truth(Due.LEAST, Due.GREATEST, "01001111000"),
        new Truth(Due.GREATEST, Due.LEAST, "01110000110"), new Truth(Due.LEAST, -1, "01110011001"),
        new Truth(0x100000000L, 1, "01001100110")
    };

    final long x;
    final long y;
    // A 1 or 0 for each of the conditions 0 .. 10.
    private final String holding;

    private Truth(long x, long y, String holding) {
        this.x = x;
        this.y = y;
        this.holding = holding;
    }

    boolean holds(int condition) {
        return holding.charAt(condition) == '1';
    }
}
