/** Terms: what a reading does to a balance. One method a sentence. */
public final class TermsReadingTest extends Sentences {
    public static void main(String[] args) {
        runAll(
            TermsReadingTest::firstReading,
            TermsReadingTest::differenceOfWholeOnes,
            TermsReadingTest::differenceOfPoints,
            TermsReadingTest::differenceOfInfiniteOnes,
            TermsReadingTest::trend,
            TermsReadingTest::swing,
            TermsReadingTest::leastAndGreatest,
            TermsReadingTest::now,
            TermsReadingTest::countInAnyCase);
    }

    private static void firstReading() {
        CHECK.sentence("Terms, A READING", "the first one (COUNT is 0) becomes NOW, LEAST and GREATEST");
        long[][] first = {
            {7, -7, 0, INT_MIN, INT_MAX},
            {7, -7, 0, LONG_MIN, LONG_MAX},
            {f(7f), f(-7f), f(0f), f(-0f), f(TINY), f(-TINY), f(INF), f(-INF)},
            {d(7), d(-7), d(0.0), d(-0.0), d(DTINY), d(-DTINY), d(INF), d(-INF)},
        };
        for (int g = 0; g < 16; g++) {
            for (long v : first[g / 4]) {
                BalanceRoom room = roomWith(g, v);
                has(room, g, 1, v, v, v, 0, 0);
                room.read(g, 1);
                room.forget(g);
                room.read(g, v);
                has(room, g, 1, v, v, v, 0, 0);
            }
        }
    }

    private static void differenceOfWholeOnes() {
        CHECK.sentence("Terms, A READING, of INTS and LONGS", "D is v less NOW");
        for (int g = 0; g < 8; g++) {
            has(roomWith(g, 5, -3), g, 2, -3, -3, 5, 8, -1);
            has(roomWith(g, -3, 5), g, 2, 5, -3, 5, 8, 1);
            has(roomWith(g, 1, 5, 2), g, 3, 2, 1, 5, 4, -1);
            has(roomWith(g, 9, 5, 12), g, 3, 12, 5, 12, 7, 1);
        }
    }

    private static void differenceOfPoints() {
        CHECK.sentence("Terms, A READING, of FLOATS and DOUBLES", "D is v less NOW");
        for (int g = 8; g < 12; g++) {
            has(roomWith(g, f(1.5f), f(-2.25f)), g, 2, f(-2.25f), f(-2.25f), f(1.5f), f(3.75f), f(-1f));
            has(roomWith(g, f(-2.25f), f(1.5f), f(1f)), g, 3, f(1f), f(-2.25f), f(1.5f), f(3.75f), f(-1f));
            has(roomWith(g, f(0f), f(-0f)), g, 2, f(-0f), f(-0f), f(0f), f(0f), f(-0f));
            has(roomWith(g, f(-0f), f(-0f)), g, 2, f(-0f), f(-0f), f(-0f), f(0f), f(0f));
        }
        for (int g = 12; g < 16; g++) {
            has(roomWith(g, d(1.5), d(-2.25)), g, 2, d(-2.25), d(-2.25), d(1.5), d(3.75), d(-1));
            has(roomWith(g, d(-2.25), d(1.5), d(1)), g, 3, d(1), d(-2.25), d(1.5), d(3.75), d(-1));
            has(roomWith(g, d(0.0), d(-0.0)), g, 2, d(-0.0), d(-0.0), d(0.0), d(0.0), d(-0.0));
            has(roomWith(g, d(-0.0), d(-0.0)), g, 2, d(-0.0), d(-0.0), d(-0.0), d(0.0), d(0.0));
        }
    }

    private static void differenceOfInfiniteOnes() {
        CHECK.sentence("Terms, A READING", "but 0 (0.0), if both are infinite with one sign");
        for (int g = 8; g < 16; g++) {
            int sort = g / 4;
            long inf = bitsOf(sort, INF);
            long minusInf = bitsOf(sort, -INF);
            long one = bitsOf(sort, 1);
            long minusOne = bitsOf(sort, -1);
            has(roomWith(g, inf, inf), g, 2, inf, inf, inf, 0, 0);
            has(roomWith(g, minusInf, minusInf), g, 2, minusInf, minusInf, minusInf, 0, 0);
            has(roomWith(g, one, inf, inf), g, 3, inf, one, inf, inf, 0);
            has(roomWith(g, inf, minusInf), g, 2, minusInf, minusInf, inf, inf, minusOne);
            has(roomWith(g, minusInf, inf), g, 2, inf, minusInf, inf, inf, one);
            has(roomWith(g, inf, one), g, 2, one, one, inf, inf, minusOne);
            has(roomWith(g, minusInf, one), g, 2, one, minusInf, one, inf, one);
            has(roomWith(g, one, minusInf), g, 2, minusInf, minusInf, one, inf, minusOne);
        }
    }

    private static void trend() {
        CHECK.sentence("Terms, A READING", "TREND becomes the SIGN of D");
        for (int i = 0; i < 16; i++) {
            int g = i;
            int sort = g / 4;
            double[] readings = {5, 9, 9, 2, 2, 3};
            double[] trends = {0, 1, 0, -1, 0, 1};
            BalanceRoom room = new BalanceRoom();
            for (int n = 0; n < readings.length; n++) {
                room.read(g, bitsOf(sort, readings[n]));
                CHECK.due("TREND behind " + readings[n] + " on balance " + g, bitsOf(sort, trends[n]),
                    () -> room.look(g, TREND));
            }
        }
        trendIs(0, INT_MAX, INT_MIN, 1);
        trendIs(0, 0, INT_MIN, -1);
        trendIs(4, LONG_MAX, LONG_MIN, 1);
        trendIs(4, 0, LONG_MIN, -1);
        trendIs(8, f(0f), f(-0f), f(-0f));
        trendIs(8, f(-0f), f(0f), f(0f));
        trendIs(8, f(0f), f(TINY), f(1f));
        trendIs(8, f(HUGE), f(0x1.fffffcp127f), f(-1f));
        trendIs(12, d(0.0), d(-0.0), d(-0.0));
        trendIs(12, d(-0.0), d(0.0), d(0.0));
        trendIs(12, d(0.0), d(DTINY), d(1));
        trendIs(12, d(DHUGE), d(0x1.ffffffffffffep1023), d(-1));
    }

    private static void trendIs(int g, long from, long to, long want) {
        CHECK.due("TREND from " + from + " to " + to, want, () -> roomWith(g, from, to).look(g, TREND));
    }

    private static void swing() {
        CHECK.sentence("Terms, A READING", "SWING the greater of SWING and D's SIZE");
        for (int i = 0; i < 16; i++) {
            int g = i;
            int sort = g / 4;
            double[] readings = {50, 53, 51, 48, 44, 44, 49, 45};
            double[] swings = {0, 3, 3, 3, 4, 4, 5, 5};
            BalanceRoom room = new BalanceRoom();
            for (int n = 0; n < readings.length; n++) {
                room.read(g, bitsOf(sort, readings[n]));
                CHECK.due("SWING behind " + readings[n] + " on balance " + g, bitsOf(sort, swings[n]),
                    () -> room.look(g, SWING));
            }
        }
        // The least INT and LONG are their own SIZE, and that is less than any SWING.
        has(roomWith(0, INT_MIN, 0), 0, 2, 0, INT_MIN, 0, 0, -1);
        has(roomWith(0, 3, 5, 5 + INT_MIN), 0, 3, 5 + INT_MIN, 5 + INT_MIN, 5, 2, -1);
        has(roomWith(4, LONG_MIN, 0), 4, 2, 0, LONG_MIN, 0, 0, -1);
        has(roomWith(4, 3, 5, 5 + LONG_MIN), 4, 3, 5 + LONG_MIN, 5 + LONG_MIN, 5, 2, -1);
        has(roomWith(4, INT_MIN, 0), 4, 2, 0, INT_MIN, 0, 1L << 31, 1);
    }

    private static void leastAndGreatest() {
        CHECK.sentence("Terms, A READING",
            "LEAST the lesser of LEAST and v; GREATEST the greater of GREATEST and v");
        for (int i = 0; i < 16; i++) {
            int g = i;
            int sort = g / 4;
            double[] readings = {3, 5, 4, -1, -1, -6, 5, 9};
            double[] leasts = {3, 3, 3, -1, -1, -6, -6, -6};
            double[] greatests = {3, 5, 5, 5, 5, 5, 5, 9};
            BalanceRoom room = new BalanceRoom();
            for (int n = 0; n < readings.length; n++) {
                room.read(g, bitsOf(sort, readings[n]));
                CHECK.due("LEAST behind " + readings[n] + " on balance " + g, bitsOf(sort, leasts[n]),
                    () -> room.look(g, LEAST));
                CHECK.due("GREATEST behind " + readings[n] + " on balance " + g, bitsOf(sort, greatests[n]),
                    () -> room.look(g, GREATEST));
            }
        }
        extremes(0, INT_MIN, INT_MAX);
        extremes(4, LONG_MIN, LONG_MAX);
        extremes(4, INT_MAX, INT_MAX + 1L);
        extremes(8, f(-INF), f(-HUGE));
        extremes(8, f(-TINY), f(-0f));
        extremes(8, f(-0f), f(0f));
        extremes(8, f(0f), f(TINY));
        extremes(8, f(HUGE), f(INF));
        extremes(12, d(-INF), d(-DHUGE));
        extremes(12, d(-DTINY), d(-0.0));
        extremes(12, d(-0.0), d(0.0));
        extremes(12, d(0.0), d(DTINY));
        extremes(12, d(DHUGE), d(INF));
    }

    private static void extremes(int g, long least, long greatest) {
        BalanceRoom rising = roomWith(g, least, greatest);
        BalanceRoom falling = roomWith(g, greatest, least);
        String of = " of " + least + " and " + greatest;
        CHECK.due("LEAST" + of + ", rising", least, () -> rising.look(g, LEAST));
        CHECK.due("GREATEST" + of + ", rising", greatest, () -> rising.look(g, GREATEST));
        CHECK.due("LEAST" + of + ", falling", least, () -> falling.look(g, LEAST));
        CHECK.due("GREATEST" + of + ", falling", greatest, () -> falling.look(g, GREATEST));
    }

    private static void now() {
        CHECK.sentence("Terms, A READING", "NOW v");
        for (int i = 0; i < 16; i++) {
            int g = i;
            int sort = g / 4;
            double[] readings = {3, 8, 8, -2, 0, 5};
            BalanceRoom room = new BalanceRoom();
            for (double v : readings) {
                room.read(g, bitsOf(sort, v));
                CHECK.due("NOW behind " + v + " on balance " + g, bitsOf(sort, v), () -> room.look(g, NOW));
            }
        }
        CHECK.due("NOW of 0.0f, -0.0f", f(-0f), () -> roomWith(8, f(0f), f(-0f)).look(8, NOW));
        CHECK.due("NOW of -0.0, 0.0", d(0.0), () -> roomWith(12, d(-0.0), d(0.0)).look(12, NOW));
    }

    private static void countInAnyCase() {
        CHECK.sentence("Terms, A READING", "COUNT is 1 more in any case.");
        for (int i = 0; i < 16; i++) {
            int g = i;
            double[] readings = {4, 4, 9, 1, 1, 0};
            BalanceRoom room = new BalanceRoom();
            for (int n = 0; n < readings.length; n++) {
                room.read(g, bitsOf(g / 4, readings[n]));
                CHECK.due("COUNT behind " + readings[n] + " on balance " + g, n + 1, () -> room.look(g, COUNT));
            }
        }
        long inf = d(INF);
        CHECK.due("COUNT of infinite ones", 3, () -> roomWith(13, inf, inf, inf).look(13, COUNT));
    }
}
