/** Counts the answers of one test that are not the ones that are due. */
final class Due {
    static final long LEAST = Long.MIN_VALUE;
    static final long GREATEST = Long.MAX_VALUE;
    static final long NARROW = 0xffffffffL;

    interface Call {
        void run();
    }

    private int wrong = 0;
    private int looked = 0;

    void same(String call, long got, long want) {
        looked++;
        if (got != want) {
            wrong++;
            System.out.println(call + " answered " + got + ", due is " + want);
        }
    }

    void same(String call, boolean got, boolean want) {
        looked++;
        if (got != want) {
            wrong++;
            System.out.println(call + " answered " + got + ", due is " + want);
        }
    }

    void range(String call, RangeBox box, int k, long low, long high) {
        same(call + ": low(" + k + ")", box.low(k), low);
        same(call + ": high(" + k + ")", box.high(k), high);
    }

    void bad(String call, Call made) {
        looked++;
        try {
            made.run();
        } catch (IllegalArgumentException e) {
            if (e.getClass() == IllegalArgumentException.class) {
                return;
            }
        }
        wrong++;
        System.out.println(call + " must throw IllegalArgumentException");
    }

    void end() {
        System.out.println(looked + " answers, " + wrong + " not as due");
        if (wrong != 0 || looked == 0) {
            System.exit(1);
        }
    }
}
