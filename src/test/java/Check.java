/** What the tests share: a call with its due answer or its due exception, and the count of what went wrong. */
final class Check {
    interface Call {
        Object answer();
    }

    private static final int MOST_TOLD_A_SENTENCE = 5;

    private String sentence = null;
    private int doneOfSentence = 0;
    private int wrongOfSentence = 0;
    private int done = 0;
    private int wrong = 0;

    /** What is checked from here to the next sentence holds the class to these words of the document. */
    void sentence(String where, String words) {
        endSentence();
        sentence = where + ": \"" + words + "\"";
        doneOfSentence = 0;
        wrongOfSentence = 0;
    }

    /** An exception where none is due ends this test, not those behind it. */
    void run(Runnable test) {
        try {
            test.run();
        } catch (RuntimeException e) {
            wrong("threw " + e + " at " + e.getStackTrace()[0]);
        }
    }

    void due(String call, long want, Call code) {
        compare(call, Long.toString(want), outcome(code));
    }

    void argument(String call, Call code) {
        compare(call, "IllegalArgumentException", outcome(code));
    }

    void state(String call, Call code) {
        compare(call, "IllegalStateException", outcome(code));
    }

    void arithmetic(String call, Call code) {
        compare(call, "ArithmeticException", outcome(code));
    }

    void compare(String call, String want, String got) {
        done++;
        doneOfSentence++;
        if (!want.equals(got)) {
            wrong(call + " answered " + got + ", due is " + want);
        }
    }

    boolean hasWrong() {
        return wrong != 0;
    }

    void end() {
        endSentence();
        System.out.println(wrong == 0 ? done + " answers are as due" : wrong + " answers are not as due");
        if (wrong != 0) {
            System.exit(1);
        }
    }

    private void endSentence() {
        if (sentence == null) {
            return;
        }
        if (doneOfSentence == 0) {
            wrong("nothing was checked");
        }
        System.out.println("  " + sentence + ", " + doneOfSentence + " answers, " + wrongOfSentence + " wrong");
    }

    private void wrong(String what) {
        wrong++;
        wrongOfSentence++;
        if (wrongOfSentence <= MOST_TOLD_A_SENTENCE) {
            System.out.println(sentence == null ? what : "BROKEN: " + sentence + ": " + what);
        }
    }

    static String outcome(Call code) {
        try {
            return String.valueOf(code.answer());
        } catch (RuntimeException e) {
            return e.getClass().getSimpleName();
        }
    }

    static long bits(float v) {
        return Float.floatToRawIntBits(v);
    }

    static long bits(double v) {
        return Double.doubleToRawLongBits(v);
    }
}
