import java.math.BigInteger;

/** The document's instructions, outcomes, conditions and cuts once more, over whole numbers that never wrap. */
final class Model {
    private static final BigInteger ZERO = BigInteger.ZERO;
    private static final BigInteger ONE = BigInteger.ONE;
    private static final BigInteger LEAST = big(Due.LEAST);
    private static final BigInteger GREATEST = big(Due.GREATEST);
    private static final BigInteger[] ALL = {LEAST, GREATEST};
    private static final BigInteger[] NARROW = {ZERO, big(Due.NARROW)};

    private Model() {
    }

    private static BigInteger big(long number) {
        return BigInteger.valueOf(number);
    }

    private static BigInteger unsigned(BigInteger number, int bits) {
        return number.mod(ONE.shiftLeft(bits));
    }

    private static BigInteger signed(BigInteger number, int bits) {
        BigInteger low = unsigned(number, bits);
        return low.testBit(bits - 1) ? low.subtract(ONE.shiftLeft(bits)) : low;
    }

    static long exact(int instruction, long x, long y, boolean narrow) {
        int bits = narrow ? 32 : 64;
        BigInteger made = whole(instruction, unsigned(big(x), bits), unsigned(big(y), bits), bits);
        return (narrow ? unsigned(made, 32) : signed(made, 64)).longValueExact();
    }

    private static BigInteger whole(int instruction, BigInteger a, BigInteger b, int bits) {
        int by = b.intValue() & bits - 1;
        switch (instruction) {
            case 0: return b;
            case 1: return a.add(b);
            case 2: return a.subtract(b);
            case 3: return a.multiply(b);
            case 4: return b.signum() == 0 ? ZERO : a.divide(b);
            case 5: return b.signum() == 0 ? a : a.mod(b);
            case 6: return a.and(b);
            case 7: return a.or(b);
            case 8: return a.xor(b);
            case 9: return a.shiftLeft(by);
            case 10: return a.shiftRight(by);
            case 11: return signed(a, bits).shiftRight(by);
            case 12: return a.negate();
            default: throw new AssertionError();
        }
    }

    static long[] outcome(int instruction, long[] x, long[] y, boolean narrow) {
        boolean xConst = x[0] == x[1];
        boolean yConst = y[0] == y[1];
        if (instruction == 0 ? yConst : instruction == 12 ? xConst : xConst && yConst) {
            long made = exact(instruction, x[0], y[0], narrow);
            return new long[] {made, made};
        }
        BigInteger[] a = {big(x[0]), big(x[1])};
        BigInteger[] b = {big(y[0]), big(y[1])};
        BigInteger[] made;
        if (!narrow) {
            made = told(instruction, a, b, 64);
        } else if (instruction == 11 || instruction == 12) {
            made = NARROW;
        } else {
            made = narrowed(told(instruction, narrowed(a), narrowed(b), 32));
        }
        return new long[] {made[0].longValueExact(), made[1].longValueExact()};
    }

    private static BigInteger[] narrowed(BigInteger[] range) {
        if (range[0].equals(range[1])) {
            BigInteger low = unsigned(range[0], 32);
            return new BigInteger[] {low, low};
        }
        boolean stays = range[0].signum() >= 0 && range[1].compareTo(NARROW[1]) <= 0;
        return stays ? range : NARROW;
    }

    private static BigInteger[] told(int instruction, BigInteger[] x, BigInteger[] y, int bits) {
        boolean xPlain = x[0].signum() >= 0;
        boolean yPlain = y[0].signum() >= 0;
        boolean bothPlain = xPlain && yPlain;
        boolean yConst = y[0].equals(y[1]);
        int by = y[0].intValue() & bits - 1;
        switch (instruction) {
            case 0:
                return y;
            case 1:
                return ofEnds(x[0].add(y[0]), x[0].add(y[1]), x[1].add(y[0]), x[1].add(y[1]));
            case 2:
                return ofEnds(x[0].subtract(y[0]), x[0].subtract(y[1]), x[1].subtract(y[0]), x[1].subtract(y[1]));
            case 3:
                return ofEnds(x[0].multiply(y[0]), x[0].multiply(y[1]), x[1].multiply(y[0]), x[1].multiply(y[1]));
            case 4:
                if (xPlain && y[0].signum() > 0) {
                    return pair(x[0].divide(y[1]), x[1].divide(y[0]));
                }
                return bothPlain ? pair(ZERO, x[1]) : ALL;
            case 5:
                if (xPlain && y[0].signum() > 0) {
                    return pair(ZERO, x[1].min(y[1].subtract(ONE)));
                }
                return bothPlain ? pair(ZERO, x[1]) : ALL;
            case 6:
                if (bothPlain) {
                    return pair(ZERO, x[1].min(y[1]));
                }
                return xPlain ? pair(ZERO, x[1]) : yPlain ? pair(ZERO, y[1]) : ALL;
            case 7:
                return bothPlain ? pair(x[0].max(y[0]), ones(x[1].max(y[1]))) : ALL;
            case 8:
                return bothPlain ? pair(ZERO, ones(x[1].max(y[1]))) : ALL;
            case 9:
                boolean right = yConst && xPlain && x[1].shiftLeft(by).compareTo(GREATEST) <= 0;
                return right ? pair(x[0].shiftLeft(by), x[1].shiftLeft(by)) : ALL;
            case 10:
                if (yConst && xPlain) {
                    return pair(x[0].shiftRight(by), x[1].shiftRight(by));
                }
                if (yConst) {
                    return by == 0 ? x : pair(ZERO, ONE.shiftLeft(64 - by).subtract(ONE));
                }
                return xPlain ? pair(ZERO, x[1]) : ALL;
            case 11:
                if (yConst) {
                    return pair(x[0].shiftRight(by), x[1].shiftRight(by));
                }
                return xPlain ? pair(ZERO, x[1]) : ALL;
            case 12:
                return ofEnds(x[0].negate(), x[1].negate(), x[0].negate(), x[1].negate());
            default:
                throw new AssertionError();
        }
    }

    private static BigInteger[] pair(BigInteger low, BigInteger high) {
        return new BigInteger[] {low, high};
    }

    private static BigInteger[] ofEnds(BigInteger a, BigInteger b, BigInteger c, BigInteger d) {
        BigInteger low = a.min(b).min(c).min(d);
        BigInteger high = a.max(b).max(c).max(d);
        return low.compareTo(LEAST) < 0 || high.compareTo(GREATEST) > 0 ? ALL : pair(low, high);
    }

    private static BigInteger ones(BigInteger high) {
        return ONE.shiftLeft(high.bitLength()).subtract(ONE);
    }

    static boolean holds(int condition, long x, long y) {
        int withSign = big(x).compareTo(big(y));
        int without = unsigned(big(x), 64).compareTo(unsigned(big(y), 64));
        switch (condition) {
            case 0: return withSign == 0;
            case 1: return withSign != 0;
            case 2: return without < 0;
            case 3: return without <= 0;
            case 4: return without > 0;
            case 5: return without >= 0;
            case 6: return withSign < 0;
            case 7: return withSign <= 0;
            case 8: return withSign > 0;
            case 9: return withSign >= 0;
            case 10: return big(x).and(big(y)).signum() != 0;
            default: throw new AssertionError();
        }
    }

    /** x.low, x.high, y.low, y.high after the cut; null where it fails. */
    static long[] cut(int condition, long[] x, long[] y, boolean holds) {
        if (x[0] == x[1] && y[0] == y[1]) {
            return holds(condition, x[0], y[0]) == holds ? new long[] {x[0], x[1], y[0], y[1]} : null;
        }
        BigInteger[] a = {big(x[0]), big(x[1])};
        BigInteger[] b = {big(y[0]), big(y[1])};
        cutWhole(condition, a, b, holds);
        boolean fails = isNone(a) || isNone(b);
        return fails ? null : new long[] {a[0].longValueExact(), a[1].longValueExact(),
            b[0].longValueExact(), b[1].longValueExact()};
    }

    private static boolean isNone(BigInteger[] range) {
        return range[0].compareTo(range[1]) > 0;
    }

    private static void cutWhole(int condition, BigInteger[] a, BigInteger[] b, boolean holds) {
        if (condition == 10) {
            return;
        }
        if (condition <= 1) {
            if (condition == 0 == holds) {
                keep(a, b[0], b[1]);
                keep(b, a[0], a[1]);
            } else {
                dropEnd(a, b);
                dropEnd(b, a);
            }
            return;
        }
        boolean withSign = condition >= 6;
        // 0 <, 1 <=, 2 >, 3 >=; the contrary of each is 3 less it.
        int order = holds ? (condition - 2) % 4 : 3 - (condition - 2) % 4;
        BigInteger gap = order == 0 || order == 2 ? ONE : ZERO;
        if (order <= 1) {
            order(a, b, gap, withSign);
        } else {
            order(b, a, gap, withSign);
        }
    }

    private static void order(BigInteger[] lesser, BigInteger[] greater, BigInteger gap, boolean withSign) {
        boolean plain = lesser[0].signum() >= 0 && greater[0].signum() >= 0;
        if (withSign || plain) {
            BigInteger lowBefore = lesser[0];
            keep(lesser, lesser[0], greater[1].subtract(gap));
            keep(greater, lowBefore.add(gap), greater[1]);
        } else if (greater[0].signum() >= 0) {
            keep(lesser, ZERO, greater[1].subtract(gap));
        }
    }

    private static void keep(BigInteger[] range, BigInteger low, BigInteger high) {
        range[0] = range[0].max(low);
        range[1] = range[1].min(high);
    }

    private static void dropEnd(BigInteger[] one, BigInteger[] other) {
        if (!one[0].equals(one[1])) {
            return;
        }
        if (one[0].equals(other[0])) {
            other[0] = other[0].add(ONE);
        } else if (one[0].equals(other[1])) {
            other[1] = other[1].subtract(ONE);
        }
    }
}
