/** The document's numbers of instructions and conditions. */
final class Codes {
    static final int MOVE = 0;
    static final int ADD = 1;
    static final int SUB = 2;
    static final int MUL = 3;
    static final int DIV = 4;
    static final int MOD = 5;
    static final int AND = 6;
    static final int OR = 7;
    static final int XOR = 8;
    static final int LEFT = 9;
    static final int RIGHT = 10;
    static final int SIGNED_RIGHT = 11;
    static final int NEG = 12;

    static final int EQUAL = 0;
    static final int DIFFERENT = 1;
    static final int BELOW = 2;
    static final int NOT_ABOVE = 3;
    static final int ABOVE = 4;
    static final int NOT_BELOW = 5;
    static final int SIGNED_BELOW = 6;
    static final int SIGNED_NOT_ABOVE = 7;
    static final int SIGNED_ABOVE = 8;
    static final int SIGNED_NOT_BELOW = 9;
    static final int COMMON_BITS = 10;

    static final int[] NO_RANGES = {-1, 16, 17, 32, Integer.MIN_VALUE, Integer.MAX_VALUE};
    static final int[] NO_INSTRUCTIONS = {-1, 13, 14, 32, Integer.MIN_VALUE, Integer.MAX_VALUE};
    static final int[] NO_CONDITIONS = {-1, 11, 12, 32, Integer.MIN_VALUE, Integer.MAX_VALUE};

    private Codes() {
    }
}
