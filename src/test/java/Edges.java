/** Numbers and ranges at which instructions and conditions turn, and a row of made-up ones that is always the same. */
final class Edges {
    static final long[] NUMBERS = {
        Due.LEAST, Due.LEAST + 1, -0x100000001L, -0x80000000L, -65, -2, -1, 0, 1, 2, 7, 31, 32, 63, 64,
        0x7fffffffL, 0x80000000L, 0xfffffffeL, 0xffffffffL, 0x100000000L, 0x4000000000000000L,
        Due.GREATEST - 1, Due.GREATEST
    };

    private long seed;

    Edges(long seed) {
        this.seed = seed;
    }

    static long[][] ranges(int step) {
        int count = 0;
        long[][] all = new long[NUMBERS.length * NUMBERS.length][];
        for (int i = 0; i < NUMBERS.length; i++) {
            for (int j = i; j < NUMBERS.length; j += j == i ? 1 : step) {
                all[count++] = new long[] {NUMBERS[i], NUMBERS[j]};
            }
        }
        return java.util.Arrays.copyOf(all, count);
    }

    private long next() {
        seed = seed * 6364136223846793005L + 1442695040888963407L;
        return seed ^ seed >>> 29;
    }

    int below(int bound) {
        return (int) Long.remainderUnsigned(next() >>> 7, bound);
    }

    /** Numbers of all sizes, many of them near an edge. */
    long number() {
        switch (below(3)) {
            case 0:
                return NUMBERS[below(NUMBERS.length)] + below(5) - 2;
            case 1:
                return next() >> below(64);
            default:
                return next() >>> below(64);
        }
    }

    long[] range() {
        long a = number();
        long b = below(5) == 0 ? a : number();
        return new long[] {Math.min(a, b), Math.max(a, b)};
    }

    /** One of the numbers in the range, its ends oftener than others. */
    long within(long[] range) {
        switch (below(4)) {
            case 0:
                return range[0];
            case 1:
                return range[1];
            default:
                long width = range[1] - range[0];
                long way = next() >>> below(64);
                return width == -1 ? range[0] + way : range[0] + Long.remainderUnsigned(way, width + 1);
        }
    }
}
