/** Counts the answers of one test that are not the ones that are due, and says for which sentence they stand. */
final class Due {
    static final long LEAST = Long.MIN_VALUE;
    static final long GREATEST = Long.MAX_VALUE;
    static final long NARROW = 0xffffffffL;
    static final String BAD = "\"Bad\" is IllegalArgumentException: a number out of range.";

    private static final String NOTHING = "nothing";
    // A model test of a broken class would tell thousands.
    private static final int MOST_TOLD = 20;

    interface Call {
        void run();
    }

    private int wrong = 0;
    private int looked = 0;
    private int sentences = 0;
    private int lookedBefore = 0;
    private int wrongHere = 0;
    private String about = "";

    /** What is looked at from here on stands for this sentence of the document. */
    void stands(String promise, String sentence) {
        endSentence();
        sentences++;
        lookedBefore = looked;
        wrongHere = 0;
        about = promise + ", '" + sentence + "': ";
        if (!Document.says(sentence)) {
            isWrong("the document does not say so");
        }
    }

    // A sentence of which nothing is looked at has no test, whatever the name of its method.
    private void endSentence() {
        if (sentences != 0 && looked == lookedBefore) {
            isWrong("no answer is looked at");
        }
    }

    /** Runs one test; what it throws is a wrong answer of its own, and those behind it run all the same. */
    void run(Call test) {
        String thrown = thrownBy(test);
        if (!thrown.equals(NOTHING)) {
            isWrong("the test itself throws " + thrown);
        }
    }

    private void isWrong(String what) {
        wrong++;
        wrongHere++;
        if (wrongHere <= MOST_TOLD) {
            System.out.println(about + what);
        }
    }

    void same(String call, long got, long want) {
        looked++;
        if (got != want) {
            isWrong(call + " answered " + got + ", due is " + want);
        }
    }

    void same(String call, boolean got, boolean want) {
        looked++;
        if (got != want) {
            isWrong(call + " answered " + got + ", due is " + want);
        }
    }

    void range(String call, RangeBox box, int k, long low, long high) {
        same(call + ": low(" + k + ")", box.low(k), low);
        same(call + ": high(" + k + ")", box.high(k), high);
    }

    void bad(String call, Call made) {
        looked++;
        String thrown = thrownBy(made);
        if (!thrown.equals("java.lang.IllegalArgumentException")) {
            isWrong(call + " must throw IllegalArgumentException, but it throws " + thrown);
        }
    }

    void good(String call, Call made) {
        looked++;
        String thrown = thrownBy(made);
        if (!thrown.equals(NOTHING)) {
            isWrong(call + " must throw nothing, but it throws " + thrown);
        }
    }

    private static String thrownBy(Call made) {
        try {
            made.run();
            return NOTHING;
        } catch (RuntimeException e) {
            return e.getClass().getName();
        }
    }

    void end() {
        endSentence();
        System.out.println(looked + " answers, " + sentences + " sentences, " + wrong + " not as due");
        if (wrong != 0 || looked == 0) {
            System.exit(1);
        }
    }
}
