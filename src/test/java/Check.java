/** What the tests share: a call with its due answer or its due exception, and the count of what went wrong. */
final class Check {
    interface Call {
        long answer();
    }

    private int done = 0;
    private int wrong = 0;

    void due(String call, long want, Call code) {
        compare(call, Long.toString(want), outcome(code));
    }

    void argument(String call, Call code) {
        dueThrow(call, IllegalArgumentException.class, code);
    }

    void state(String call, Call code) {
        dueThrow(call, IllegalStateException.class, code);
    }

    void arithmetic(String call, Call code) {
        dueThrow(call, ArithmeticException.class, code);
    }

    void compare(String call, String want, String got) {
        done++;
        if (!want.equals(got)) {
            wrong++;
            if (wrong <= 40) {
                System.out.println(call + " answered " + got + ", due is " + want);
            }
        }
    }

    boolean hasWrong() {
        return wrong != 0;
    }

    void end() {
        System.out.println(wrong == 0 ? done + " answers are as due" : wrong + " answers are not as due");
        if (wrong != 0) {
            System.exit(1);
        }
    }

    private void dueThrow(String call, Class<? extends RuntimeException> want, Call code) {
        compare(call, want.getSimpleName(), outcome(code));
    }

    static String outcome(Call code) {
        try {
            return Long.toString(code.answer());
        } catch (RuntimeException e) {
            return e.getClass().getSimpleName();
        }
    }

    static long bits(float v) {
        return Float.floatToRawIntBits(v);
    }

    static long bits(double v) {
        return Double.doubleToRawLongBits(v);
    }
}
