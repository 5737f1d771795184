/**
 * Ranges of longs, what instructions of a machine make of them, and how conditions cut them.
 * All rows are made with the object: no call makes an object, but for the exception it throws.
 */
public final class RangeBox {
    private static final int RANGES = 16;

    private final long[] lows;
    private final long[] highs;
    private final Outcome outcome;

    public RangeBox() {
        lows = new long[RANGES];
        highs = new long[RANGES];
        outcome = new Outcome();
    }

    public void put(int k, long low, long high) throws IllegalArgumentException {
        needRange(k);
        if (low > high) {
            throw new IllegalArgumentException("low is above high");
        }
        lows[k] = low;
        highs[k] = high;
    }

    public void work(int d, int instruction, int x, int y, boolean narrow) throws IllegalArgumentException {
        needRange(d);
        needInstruction(instruction);
        needRange(x);
        needRange(y);
        outcome.take(lows[x], highs[x], lows[y], highs[y]);
        outcome.make(instruction, narrow);
        lows[d] = outcome.low;
        highs[d] = outcome.high;
    }

    public long exact(int instruction, long x, long y, boolean narrow) throws IllegalArgumentException {
        needInstruction(instruction);
        return Machine.make(instruction, x, y, narrow);
    }

    public boolean cut(int condition, int x, int y, boolean holds) throws IllegalArgumentException {
        needCondition(condition);
        needRange(x);
        needRange(y);
        if (x == y) {
            throw new IllegalArgumentException("a range is not cut by itself");
        }
        if (isConst(x) && isConst(y)) {
            return Machine.isSo(condition, lows[x], lows[y]) == holds;
        }
        return cutSo(holds ? condition : Machine.CONTRARY[condition], x, y);
    }

    public boolean holds(int condition, long x, long y) throws IllegalArgumentException {
        needCondition(condition);
        return Machine.isSo(condition, x, y);
    }

    public long low(int k) throws IllegalArgumentException {
        needRange(k);
        return lows[k];
    }

    public long high(int k) throws IllegalArgumentException {
        needRange(k);
        return highs[k];
    }

    private static void needRange(int k) {
        if (k < 0 || k >= RANGES) {
            throw new IllegalArgumentException("no such range");
        }
    }

    private static void needInstruction(int instruction) {
        if (instruction < 0 || instruction >= Machine.INSTRUCTIONS) {
            throw new IllegalArgumentException("no such instruction");
        }
    }

    private static void needCondition(int condition) {
        if (condition < 0 || condition >= Machine.CONDITIONS) {
            throw new IllegalArgumentException("no such condition");
        }
    }

    private boolean isConst(int k) {
        return lows[k] == highs[k];
    }

    private boolean cutSo(int condition, int x, int y) {
        switch (condition) {
            case Machine.EQUAL:
                return cutToCommon(x, y);
            case Machine.DIFFERENT:
                return cutApart(x, y);
            case Machine.BELOW:
                return cutBelow(x, y, 1);
            case Machine.NOT_ABOVE:
                return cutBelow(x, y, 0);
            case Machine.ABOVE:
                return cutBelow(y, x, 1);
            case Machine.NOT_BELOW:
                return cutBelow(y, x, 0);
            case Machine.SIGNED_BELOW:
                return cutSignedBelow(x, y, 1);
            case Machine.SIGNED_NOT_ABOVE:
                return cutSignedBelow(x, y, 0);
            case Machine.SIGNED_ABOVE:
                return cutSignedBelow(y, x, 1);
            case Machine.SIGNED_NOT_BELOW:
                return cutSignedBelow(y, x, 0);
            default:
                return true;
        }
    }

    private boolean cutToCommon(int x, int y) {
        long low = Math.max(lows[x], lows[y]);
        long high = Math.min(highs[x], highs[y]);
        if (low > high) {
            return false;
        }
        lows[x] = low;
        highs[x] = high;
        lows[y] = low;
        highs[y] = high;
        return true;
    }

    private boolean cutApart(int x, int y) {
        if (isConst(x)) {
            dropEnd(y, lows[x]);
        } else if (isConst(y)) {
            dropEnd(x, lows[y]);
        }
        return true;
    }

    // Two CONSTS never come here, so range k has another number left when an end goes.
    private void dropEnd(int k, long number) {
        if (lows[k] == number) {
            lows[k]++;
        } else if (highs[k] == number) {
            highs[k]--;
        }
    }

    private boolean cutSignedBelow(int lesser, int greater, int gap) {
        // Behind the least or greatest long the gap would wrap, and no number is there.
        if (gap != 0 && (highs[greater] == Machine.LEAST || lows[lesser] == Machine.GREATEST)) {
            return false;
        }
        long high = Math.min(highs[lesser], highs[greater] - gap);
        long low = Math.max(lows[greater], lows[lesser] + gap);
        if (high < lows[lesser] || low > highs[greater]) {
            return false;
        }
        highs[lesser] = high;
        lows[greater] = low;
        return true;
    }

    private boolean cutBelow(int lesser, int greater, int gap) {
        // With a number below 0, which is above all others without sign, the greater one tells nothing.
        if (lows[greater] < 0) {
            return true;
        }
        if (lows[lesser] >= 0) {
            return cutSignedBelow(lesser, greater, gap);
        }
        long high = Math.min(highs[lesser], highs[greater] - gap);
        if (high < 0) {
            return false;
        }
        lows[lesser] = 0;
        highs[lesser] = high;
        return true;
    }

    /** What the machine does with numbers: its instructions and its conditions. */
    private static final class Machine {
        static final int MOVE = 0;
        static final int ADD = 1;
        static final int SUB = 2;
        static final int MUL = 3;
        static final int DIV = 4;
        static final int MOD = 5;
        static final int AND = 6;
        static final int OR = 7;
        static final int XOR = 8;
        static final int LEFT = 9;
        static final int RIGHT = 10;
        static final int SIGNED_RIGHT = 11;
        static final int NEG = 12;
        static final int INSTRUCTIONS = 13;

        static final int EQUAL = 0;
        static final int DIFFERENT = 1;
        static final int BELOW = 2;
        static final int NOT_ABOVE = 3;
        static final int ABOVE = 4;
        static final int NOT_BELOW = 5;
        static final int SIGNED_BELOW = 6;
        static final int SIGNED_NOT_ABOVE = 7;
        static final int SIGNED_ABOVE = 8;
        static final int SIGNED_NOT_BELOW = 9;
        static final int COMMON_BITS = 10;
        static final int CONDITIONS = 11;

        // COMMON_BITS has no contrary among the conditions; it cuts nothing either way.
        static final int[] CONTRARY = {
            DIFFERENT, EQUAL,
            NOT_BELOW, ABOVE, NOT_ABOVE, BELOW,
            SIGNED_NOT_BELOW, SIGNED_ABOVE, SIGNED_NOT_ABOVE, SIGNED_BELOW,
            COMMON_BITS
        };

        static final long LEAST = 0x8000000000000000L;
        static final long GREATEST = 0x7fffffffffffffffL;
        static final long NARROW = 0xffffffffL;
        static final int WIDE_SHIFT = 63;
        static final int NARROW_SHIFT = 31;

        static long make(int instruction, long x, long y, boolean narrow) {
            if (!narrow) {
                return makeWide(instruction, x, y, WIDE_SHIFT);
            }
            long lowBits = instruction == SIGNED_RIGHT ? (int) x : x & NARROW;
            return makeWide(instruction, lowBits, y & NARROW, NARROW_SHIFT) & NARROW;
        }

        private static long makeWide(int instruction, long x, long y, int shiftMask) {
            int by = (int) y & shiftMask;
            switch (instruction) {
                case MOVE:
                    return y;
                case ADD:
                    return x + y;
                case SUB:
                    return x - y;
                case MUL:
                    return x * y;
                case DIV:
                    return divide(x, y);
                case MOD:
                    return rest(x, y);
                case AND:
                    return x & y;
                case OR:
                    return x | y;
                case XOR:
                    return x ^ y;
                case LEFT:
                    return x << by;
                case RIGHT:
                    return x >>> by;
                case SIGNED_RIGHT:
                    return x >> by;
                default:
                    return -x;
            }
        }

        static long divide(long x, long y) {
            if (y == 0) {
                return 0;
            }
            if (y < 0) {
                // Without sign twice y is beyond every long.
                return isBelow(x, y) ? 0 : 1;
            }
            if (x >= 0) {
                return x / y;
            }
            // Half of x has no sign to mislead the division; doubled again, the quotient is at most 1 too small.
            long quotient = (x >>> 1) / y << 1;
            return isBelow(x - quotient * y, y) ? quotient : quotient + 1;
        }

        // By 0 the quotient is 0, which leaves x, as it must.
        private static long rest(long x, long y) {
            return x - divide(x, y) * y;
        }

        // Turning both signs over puts the longs below 0 above the others, as they are without sign.
        private static boolean isBelow(long x, long y) {
            return (x ^ LEAST) < (y ^ LEAST);
        }

        static boolean isSo(int condition, long x, long y) {
            switch (condition) {
                case EQUAL:
                    return x == y;
                case DIFFERENT:
                    return x != y;
                case BELOW:
                    return isBelow(x, y);
                case NOT_ABOVE:
                    return !isBelow(y, x);
                case ABOVE:
                    return isBelow(y, x);
                case NOT_BELOW:
                    return !isBelow(x, y);
                case SIGNED_BELOW:
                    return x < y;
                case SIGNED_NOT_ABOVE:
                    return x <= y;
                case SIGNED_ABOVE:
                    return x > y;
                case SIGNED_NOT_BELOW:
                    return x >= y;
                default:
                    return (x & y) != 0;
            }
        }
    }

    /** The range that holds whatever an instruction makes of the numbers of two ranges. */
    private static final class Outcome {
        private long xLow;
        private long xHigh;
        private long yLow;
        private long yHigh;
        private long low;
        private long high;

        void take(long lowOfX, long highOfX, long lowOfY, long highOfY) {
            xLow = lowOfX;
            xHigh = highOfX;
            yLow = lowOfY;
            yHigh = highOfY;
        }

        void make(int instruction, boolean narrow) {
            if (isOfConsts(instruction)) {
                long number = Machine.make(instruction, xLow, yLow, narrow);
                tell(number, number);
            } else if (narrow) {
                makeNarrow(instruction);
            } else {
                makeWide(instruction, Machine.WIDE_SHIFT);
            }
        }

        private boolean isOfConsts(int instruction) {
            return (instruction == Machine.MOVE || xLow == xHigh) && (instruction == Machine.NEG || yLow == yHigh);
        }

        private void tell(long least, long greatest) {
            low = least;
            high = greatest;
        }

        private void tellAll() {
            tell(Machine.LEAST, Machine.GREATEST);
        }

        private void makeNarrow(int instruction) {
            if (instruction == Machine.SIGNED_RIGHT || instruction == Machine.NEG) {
                tell(0, Machine.NARROW);
                return;
            }
            take(narrowLow(xLow, xHigh), narrowHigh(xLow, xHigh), narrowLow(yLow, yHigh), narrowHigh(yLow, yHigh));
            makeWide(instruction, Machine.NARROW_SHIFT);
            tell(narrowLow(low, high), narrowHigh(low, high));
        }

        private static long narrowLow(long least, long greatest) {
            if (least == greatest) {
                return least & Machine.NARROW;
            }
            return isNarrow(least, greatest) ? least : 0;
        }

        private static long narrowHigh(long least, long greatest) {
            if (least == greatest) {
                return greatest & Machine.NARROW;
            }
            return isNarrow(least, greatest) ? greatest : Machine.NARROW;
        }

        private static boolean isNarrow(long least, long greatest) {
            return least >= 0 && greatest <= Machine.NARROW;
        }

        private void makeWide(int instruction, int shiftMask) {
            switch (instruction) {
                case Machine.MOVE:
                    tell(yLow, yHigh);
                    break;
                case Machine.ADD:
                    add();
                    break;
                case Machine.SUB:
                    subtract(xLow, xHigh, yLow, yHigh);
                    break;
                case Machine.MUL:
                    multiply();
                    break;
                case Machine.DIV:
                    divide();
                    break;
                case Machine.MOD:
                    rest();
                    break;
                case Machine.AND:
                    and();
                    break;
                case Machine.OR:
                    joinBits(Math.max(xLow, yLow));
                    break;
                case Machine.XOR:
                    joinBits(0);
                    break;
                case Machine.LEFT:
                    shiftLeft((int) yLow & shiftMask);
                    break;
                case Machine.RIGHT:
                    shiftRight((int) yLow & shiftMask);
                    break;
                case Machine.SIGNED_RIGHT:
                    shiftSignedRight((int) yLow & shiftMask);
                    break;
                default:
                    subtract(0, 0, xLow, xHigh);
                    break;
            }
        }

        // The outcomes of the other ends lie between these two.
        private void add() {
            if (isSumLong(xLow, yLow) && isSumLong(xHigh, yHigh)) {
                tell(xLow + yLow, xHigh + yHigh);
            } else {
                tellAll();
            }
        }

        private void subtract(long fromLow, long fromHigh, long lessLow, long lessHigh) {
            if (isDifferenceLong(fromLow, lessHigh) && isDifferenceLong(fromHigh, lessLow)) {
                tell(fromLow - lessHigh, fromHigh - lessLow);
            } else {
                tellAll();
            }
        }

        private void multiply() {
            if (!isProductLong(xLow, yLow) || !isProductLong(xLow, yHigh)
                    || !isProductLong(xHigh, yLow) || !isProductLong(xHigh, yHigh)) {
                tellAll();
                return;
            }
            long a = xLow * yLow;
            long b = xLow * yHigh;
            long c = xHigh * yLow;
            long d = xHigh * yHigh;
            tell(Math.min(Math.min(a, b), Math.min(c, d)), Math.max(Math.max(a, b), Math.max(c, d)));
        }

        // A sum wraps just where both numbers have the one sign and the sum has the other.
        private static boolean isSumLong(long a, long b) {
            long sum = a + b;
            return ((a ^ sum) & (b ^ sum)) >= 0;
        }

        private static boolean isDifferenceLong(long a, long b) {
            long difference = a - b;
            return ((a ^ b) & (a ^ difference)) >= 0;
        }

        private static boolean isProductLong(long a, long b) {
            if (a == 0) {
                return true;
            }
            // The division below would wrap here, as the product does, and not show it.
            if (a == -1) {
                return b != Machine.LEAST;
            }
            return a * b / a == b;
        }

        private void divide() {
            if (xLow >= 0 && yLow > 0) {
                tell(Machine.divide(xLow, yHigh), Machine.divide(xHigh, yLow));
            } else if (xLow >= 0 && yLow >= 0) {
                tell(0, xHigh);
            } else {
                tellAll();
            }
        }

        private void rest() {
            if (xLow >= 0 && yLow > 0) {
                tell(0, Math.min(xHigh, yHigh - 1));
            } else if (xLow >= 0 && yLow >= 0) {
                tell(0, xHigh);
            } else {
                tellAll();
            }
        }

        private void and() {
            if (xLow >= 0 && yLow >= 0) {
                tell(0, Math.min(xHigh, yHigh));
            } else if (xLow >= 0) {
                tell(0, xHigh);
            } else if (yLow >= 0) {
                tell(0, yHigh);
            } else {
                tellAll();
            }
        }

        private void joinBits(long least) {
            if (xLow >= 0 && yLow >= 0) {
                tell(least, allBitsUpTo(xHigh | yHigh));
            } else {
                tellAll();
            }
        }

        // Each step doubles the run of ones behind the highest one.
        private static long allBitsUpTo(long number) {
            long bits = number;
            for (int step = 1; step < 64; step *= 2) {
                bits |= bits >>> step;
            }
            return bits;
        }

        private void shiftLeft(int by) {
            // Shifting back with sign shows a lost bit and one that fell on the sign.
            if (yLow == yHigh && xLow >= 0 && xHigh << by >> by == xHigh) {
                tell(xLow << by, xHigh << by);
            } else {
                tellAll();
            }
        }

        private void shiftRight(int by) {
            if (yLow != yHigh) {
                shiftRightByAny();
            } else if (xLow >= 0) {
                tell(xLow >>> by, xHigh >>> by);
            } else if (by == 0) {
                tell(xLow, xHigh);
            } else {
                tell(0, -1L >>> by);
            }
        }

        private void shiftSignedRight(int by) {
            if (yLow != yHigh) {
                shiftRightByAny();
            } else {
                tell(xLow >> by, xHigh >> by);
            }
        }

        private void shiftRightByAny() {
            if (xLow >= 0) {
                tell(0, xHigh);
            } else {
                tellAll();
            }
        }
    }
}
