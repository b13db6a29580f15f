/** Terms: what each of the thirteen orders makes of a number. One method a sentence. */
public final class TermsOrdersTest extends Sentences {
    public static void main(String[] args) {
        runAll(
            TermsOrdersTest::sizeWithoutSign,
            TermsOrdersTest::sizeOfTheLeast,
            TermsOrdersTest::down,
            TermsOrdersTest::up,
            TermsOrdersTest::nearest,
            TermsOrdersTest::nearOfTwoTheEven,
            TermsOrdersTest::zeroOfThoseBelowZero,
            TermsOrdersTest::infiniteOnesStay,
            TermsOrdersTest::wholeOnesAreWhole,
            TermsOrdersTest::signOfOthers,
            TermsOrdersTest::signOfZero,
            TermsOrdersTest::likeOfPoints,
            TermsOrdersTest::likeOfWholes,
            TermsOrdersTest::more,
            TermsOrdersTest::less,
            TermsOrdersTest::stepsOfK,
            TermsOrdersTest::stepOfPoints,
            TermsOrdersTest::stepOfWholes,
            TermsOrdersTest::stepOfWholesBelowOne,
            TermsOrdersTest::meetOfPoints,
            TermsOrdersTest::meetOfWholes,
            TermsOrdersTest::meetOfWholesDownwards,
            TermsOrdersTest::turn,
            TermsOrdersTest::turnOfWholes,
            TermsOrdersTest::held,
            TermsOrdersTest::part,
            TermsOrdersTest::partOfInfiniteOnes,
            TermsOrdersTest::partOfWholes);
    }

    private static void sizeWithoutSign() {
        CHECK.sentence("Terms, order 0 SIZE", "without its sign");
        wholes(SIZE, 0, 5, 5, -5, 5, 0, 0, 1, 1, -1, 1, INT_MAX, INT_MAX, -INT_MAX, INT_MAX);
        longs(SIZE, 0, LONG_MAX, LONG_MAX, -LONG_MAX, LONG_MAX, INT_MIN, 1L << 31);
        points(SIZE, 0, 1.5f, 1.5f, -1.5f, 1.5f, 0f, 0f, -0f, 0f, INF, INF, -INF, INF);
        floats(SIZE, 0, TINY, TINY, -TINY, TINY, -HUGE, HUGE);
        doubles(SIZE, 0, DTINY, DTINY, -DTINY, DTINY, -DHUGE, DHUGE);
    }

    private static void sizeOfTheLeast() {
        CHECK.sentence("Terms, order 0 SIZE", "of the least INT, LONG: itself");
        ints(SIZE, 0, INT_MIN, INT_MIN);
        longs(SIZE, 0, LONG_MIN, LONG_MIN);
    }

    private static void down() {
        CHECK.sentence("Terms, order 1 DOWN", "the greatest whole number that is not above v");
        points(DOWN, 0, 2.5f, 2f, -2.5f, -3f, 3f, 3f, -3f, -3f, 0.5f, 0f, -0.5f, -1f, 0f, 0f, 1f, 1f, -1f, -1f);
        floats(DOWN, 0, TINY, 0f, -TINY, -1f, 0x1.fffffep-1f, 0f, -0x1.fffffep-1f, -1f, 0x1.fffffep0f, 1f,
            0x1.000002p0f, 1f, -0x1.000002p0f, -2f, 8388607.5f, 8388607f, -8388607.5f, -8388608f,
            8388608f, 8388608f, 8388609f, 8388609f, HUGE, HUGE, -HUGE, -HUGE);
        doubles(DOWN, 0, DTINY, 0, -DTINY, -1, 0x1.fffffffffffffp-1, 0, -0x1.fffffffffffffp-1, -1,
            0x1.fffffffffffffp0, 1, 0x1.0000000000001p0, 1, -0x1.0000000000001p0, -2,
            4503599627370495.5, 4503599627370495.0, -4503599627370495.5, -4503599627370496.0,
            4503599627370497.0, 4503599627370497.0, DHUGE, DHUGE, -DHUGE, -DHUGE);
    }

    private static void up() {
        CHECK.sentence("Terms, order 2 UP", "the least one that is not below");
        points(UP, 0, 2.5f, 3f, -2.5f, -2f, 3f, 3f, -3f, -3f, 0.5f, 1f, 0f, 0f, 1f, 1f, -1f, -1f, -1.5f, -1f);
        floats(UP, 0, TINY, 1f, 0x1.fffffep-1f, 1f, 0x1.fffffep0f, 2f, 0x1.000002p0f, 2f, -0x1.000002p0f, -1f,
            8388607.5f, 8388608f, -8388607.5f, -8388607f, 8388608f, 8388608f, -8388609f, -8388609f,
            HUGE, HUGE, -HUGE, -HUGE);
        doubles(UP, 0, DTINY, 1, 0x1.fffffffffffffp-1, 1, 0x1.fffffffffffffp0, 2, 0x1.0000000000001p0, 2,
            -0x1.0000000000001p0, -1, 4503599627370495.5, 4503599627370496.0,
            -4503599627370495.5, -4503599627370495.0, -4503599627370497.0, -4503599627370497.0,
            DHUGE, DHUGE, -DHUGE, -DHUGE);
    }

    private static void nearest() {
        CHECK.sentence("Terms, order 3 NEAR", "the nearest one");
        points(NEAR, 0, 2.25f, 2f, 2.75f, 3f, -2.25f, -2f, -2.75f, -3f, 0.25f, 0f, 0.75f, 1f, -0.75f, -1f,
            0f, 0f, 7f, 7f, -8f, -8f);
        floats(NEAR, 0, TINY, 0f, 0x1.fffffep-2f, 0f, 0x1.000002p-1f, 1f, -0x1.000002p-1f, -1f,
            0x1.3ffffep1f, 2f, 0x1.400002p1f, 3f, 0x1.bffffep1f, 3f, 0x1.c00002p1f, 4f, 0x1.fffffep-1f, 1f,
            4194303.75f, 4194304f, 4194303.25f, 4194303f, 8388609f, 8388609f, HUGE, HUGE, -HUGE, -HUGE);
        doubles(NEAR, 0, DTINY, 0, 0x1.fffffffffffffp-2, 0, 0x1.0000000000001p-1, 1, -0x1.0000000000001p-1, -1,
            0x1.3ffffffffffffp1, 2, 0x1.4000000000001p1, 3, 0x1.bffffffffffffp1, 3, 0x1.c000000000001p1, 4,
            2251799813685247.75, 2251799813685248.0, 4503599627370497.0, 4503599627370497.0,
            DHUGE, DHUGE, -DHUGE, -DHUGE);
    }

    private static void nearOfTwoTheEven() {
        CHECK.sentence("Terms, order 3 NEAR", "of two the even one");
        points(NEAR, 0, 0.5f, 0f, 1.5f, 2f, 2.5f, 2f, 3.5f, 4f, 4.5f, 4f, -1.5f, -2f, -2.5f, -2f, -3.5f, -4f);
        floats(NEAR, 0, 8388607.5f, 8388608f, 8388606.5f, 8388606f, -8388607.5f, -8388608f, -8388606.5f, -8388606f);
        doubles(NEAR, 0, 4503599627370495.5, 4503599627370496.0, 4503599627370494.5, 4503599627370494.0,
            -4503599627370495.5, -4503599627370496.0, -4503599627370494.5, -4503599627370494.0);
    }

    private static void zeroOfThoseBelowZero() {
        CHECK.sentence("Terms, orders 1 to 3",
            "What comes of FLOATS, DOUBLES below 0 and of -0.0, if it is 0, is -0.0");
        points(DOWN, 0, -0f, -0f);
        points(UP, 0, -0f, -0f, -0.25f, -0f, -0.5f, -0f, -0.75f, -0f);
        points(NEAR, 0, -0f, -0f, -0.25f, -0f, -0.5f, -0f);
        floats(UP, 0, -TINY, -0f, -0x1.fffffep-1f, -0f);
        floats(NEAR, 0, -TINY, -0f, -0x1.fffffep-2f, -0f);
        doubles(UP, 0, -DTINY, -0.0, -0x1.fffffffffffffp-1, -0.0);
        doubles(NEAR, 0, -DTINY, -0.0, -0x1.fffffffffffffp-2, -0.0);
    }

    private static void infiniteOnesStay() {
        CHECK.sentence("Terms, orders 1 to 3", "infinite ones stay");
        points(DOWN, 0, INF, INF, -INF, -INF);
        points(UP, 0, INF, INF, -INF, -INF);
        points(NEAR, 0, INF, INF, -INF, -INF);
    }

    private static void wholeOnesAreWhole() {
        CHECK.sentence("Terms, orders 1 to 3", "of INTS, LONGS itself");
        for (int code = DOWN; code <= NEAR; code++) {
            wholes(code, 0, 7, 7, -7, -7, 0, 0, 1, 1, -1, -1, INT_MIN, INT_MIN, INT_MAX, INT_MAX);
            longs(code, 0, LONG_MIN, LONG_MIN, LONG_MAX, LONG_MAX);
        }
    }

    private static void signOfOthers() {
        CHECK.sentence("Terms, order 4 SIGN", "1 or -1, as v is above or below 0");
        wholes(SIGN, 0, 5, 1, -5, -1, 1, 1, -1, -1, INT_MAX, 1, INT_MIN, -1);
        longs(SIGN, 0, LONG_MAX, 1, LONG_MIN, -1, 1L << 32, 1, -(1L << 32), -1);
        points(SIGN, 0, 7f, 1f, -7f, -1f, 0.25f, 1f, -0.25f, -1f, INF, 1f, -INF, -1f);
        floats(SIGN, 0, TINY, 1f, -TINY, -1f, HUGE, 1f, -HUGE, -1f);
        doubles(SIGN, 0, DTINY, 1, -DTINY, -1, DHUGE, 1, -DHUGE, -1);
    }

    private static void signOfZero() {
        CHECK.sentence("Terms, order 4 SIGN", "of 0, 0.0, -0.0 itself");
        wholes(SIGN, 0, 0, 0);
        points(SIGN, 0, 0f, 0f, -0f, -0f);
    }

    private static void likeOfPoints() {
        CHECK.sentence("Terms, order 5 LIKE", "the SIZE of v, of FLOATS and DOUBLES with the sign bit of w");
        pointsAgainst(LIKE, 2.5f, 3f, 2.5f);
        pointsAgainst(LIKE, -2.5f, 3f, 2.5f);
        pointsAgainst(LIKE, 2.5f, -3f, -2.5f);
        pointsAgainst(LIKE, -2.5f, -3f, -2.5f);
        pointsAgainst(LIKE, 2.5f, -0f, -2.5f);
        pointsAgainst(LIKE, -2.5f, 0f, 2.5f);
        pointsAgainst(LIKE, -0f, 7f, 0f);
        pointsAgainst(LIKE, 0f, -INF, -0f);
        pointsAgainst(LIKE, 0f, -0f, -0f);
        pointsAgainst(LIKE, INF, -1f, -INF);
        pointsAgainst(LIKE, -INF, 0f, INF);
        floatAgainst(LIKE, TINY, -TINY, -TINY);
        doubleAgainst(LIKE, DTINY, -DTINY, -DTINY);
    }

    private static void likeOfWholes() {
        CHECK.sentence("Terms, order 5 LIKE", "of INTS, LONGS 0 less that, if w is below 0");
        wholesAgainst(LIKE, 7, 3, 7);
        wholesAgainst(LIKE, -7, 3, 7);
        wholesAgainst(LIKE, 7, -3, -7);
        wholesAgainst(LIKE, -7, -3, -7);
        wholesAgainst(LIKE, -7, 0, 7);
        wholesAgainst(LIKE, 7, 0, 7);
        wholesAgainst(LIKE, 7, -1, -7);
        wholesAgainst(LIKE, 7, 1, 7);
        wholesAgainst(LIKE, 0, -1, 0);
        against(LIKE, INTS, INT_MIN, 1, INT_MIN);
        against(LIKE, INTS, INT_MIN, 0, INT_MIN);
        against(LIKE, INTS, INT_MIN, -1, INT_MIN);
        against(LIKE, LONGS, LONG_MIN, 1, LONG_MIN);
        against(LIKE, LONGS, LONG_MIN, -1, LONG_MIN);
        against(LIKE, LONGS, INT_MIN, 1, 1L << 31);
        against(LIKE, LONGS, 1L << 40, -1, -(1L << 40));
    }

    private static void more() {
        CHECK.sentence("Terms, order 6 MORE", "the greater of v and w");
        everyPair(MORE, true);
    }

    private static void less() {
        CHECK.sentence("Terms, order 7 LESS", "the lesser");
        everyPair(LESS, false);
    }

    /** Each row rises, so of any two of its numbers the later one is the greater. */
    private static void everyPair(int code, boolean greater) {
        long[][] rising = {
            {INT_MIN, -2, -1, 0, 1, 2, INT_MAX},
            {LONG_MIN, INT_MIN - 1L, INT_MIN, -1, 0, 1, INT_MAX, INT_MAX + 1L, LONG_MAX},
            {f(-INF), f(-HUGE), f(-2f), f(-1f), f(-TINY), f(-0f), f(0f), f(TINY), f(1f), f(2f), f(HUGE), f(INF)},
            {d(-INF), d(-DHUGE), d(-2), d(-1), d(-DTINY), d(-0.0), d(0.0), d(DTINY), d(1), d(2), d(DHUGE), d(INF)},
        };
        for (int sort = 0; sort < 4; sort++) {
            long[] row = rising[sort];
            for (int i = 0; i < row.length; i++) {
                for (int j = 0; j < row.length; j++) {
                    against(code, sort, row[i], row[j], row[greater ? Math.max(i, j) : Math.min(i, j)]);
                }
            }
        }
    }

    private static void stepsOfK() {
        CHECK.sentence("Terms, order 8 STEP", "with p = k - 10 (k 0 .. 20)");
        for (int k = 0; k <= 20; k++) {
            float step = Math.scalb(1f, k - 10);
            points(STEP, k, step, step, 3 * step, 3 * step, -5 * step, -5 * step, 1.25f * step, step,
                0.75f * step, step, 0.25f * step, 0f);
        }
        for (int k = 10; k <= 20; k++) {
            int step = 1 << (k - 10);
            wholes(STEP, k, step, step, step - 1, 0, 2 * step - 1, step, -1, -step, 3 * step, 3 * step);
        }
    }

    private static void stepOfPoints() {
        CHECK.sentence("Terms, order 8 STEP", "of FLOATS, DOUBLES the NEAR of v * 2^-p, and that * 2^p");
        points(STEP, 10, 2.5f, 2f, 3.5f, 4f, 2.75f, 3f, -0.5f, -0f, -0f, -0f);
        points(STEP, 11, 3f, 4f, 1f, 0f, 5f, 4f, 7f, 8f, -1f, -0f, -3f, -4f, INF, INF, -INF, -INF, -0f, -0f, 0f, 0f);
        points(STEP, 9, 0.25f, 0f, 0.75f, 1f, 1.25f, 1f, 1.375f, 1.5f, -0.25f, -0f, -0.375f, -0.5f);
        points(STEP, 20, 512f, 0f, 513f, 1024f, 1536f, 2048f, 1535f, 1024f, -512f, -0f, -1536f, -2048f);
        points(STEP, 0, 0x1p-11f, 0f, 0x1.000002p-11f, 0x1p-10f, 0x1.8p-10f, 0x1p-9f, -0x1p-11f, -0f);
        points(STEP, 0, INF, INF, -INF, -INF);
        points(STEP, 20, INF, INF, -INF, -INF);
        floats(STEP, 20, TINY, 0f, -TINY, -0f, HUGE, HUGE, -HUGE, -HUGE);
        doubles(STEP, 20, DTINY, 0, -DTINY, -0.0, DHUGE, DHUGE, -DHUGE, -DHUGE);
        // v * 2^10 is infinite from 2^118 (2^1014) on, and an infinite one stays so.
        floats(STEP, 0, TINY, 0f, -TINY, -0f, 0x1.fffffep117f, 0x1.fffffep117f, 0x1p118f, INF, HUGE, INF, -HUGE, -INF);
        doubles(STEP, 0, DTINY, 0, -DTINY, -0.0, 0x1.fffffffffffffp1013, 0x1.fffffffffffffp1013, 0x1p1014, INF,
            DHUGE, INF, -DHUGE, -INF);
        floats(STEP, 9, HUGE, INF, 0x1.fffffep126f, 0x1.fffffep126f);
        doubles(STEP, 9, DHUGE, INF, 0x1.fffffffffffffp1022, 0x1.fffffffffffffp1022);
    }

    private static void stepOfWholes() {
        CHECK.sentence("Terms, order 8 STEP", "of INTS, LONGS the greatest multiple of 2^p that is not above v");
        wholes(STEP, 10, 7, 7, -7, -7, 0, 0, INT_MIN, INT_MIN, INT_MAX, INT_MAX);
        wholes(STEP, 11, 7, 6, 6, 6, -7, -8, -6, -6, -1, -2, 1, 0, 0, 0, INT_MAX, INT_MAX - 1);
        wholes(STEP, 13, 15, 8, 16, 16, 7, 0, -15, -16, -16, -16, -17, -24);
        wholes(STEP, 20, 1023, 0, 1024, 1024, 1025, 1024, -1, -1024, -1024, -1024, -1025, -2048,
            INT_MIN, INT_MIN, INT_MIN + 1, INT_MIN, INT_MAX, 0x7ffffc00);
        longs(STEP, 20, LONG_MIN, LONG_MIN, LONG_MIN + 1, LONG_MIN, LONG_MAX, LONG_MAX - 1023);
    }

    private static void stepOfWholesBelowOne() {
        CHECK.sentence("Terms, order 8 STEP", "itself for p below 0");
        for (int k = 0; k < 10; k++) {
            wholes(STEP, k, 7, 7, -7, -7, 0, 0, 1, 1, -1, -1, INT_MIN, INT_MIN, INT_MAX, INT_MAX);
            longs(STEP, k, LONG_MIN, LONG_MIN, LONG_MAX, LONG_MAX);
        }
    }

    private static void meetOfPoints() {
        CHECK.sentence("Terms, order 9 MEET", "(v + w) * 0.5");
        pointsAgainst(MEET, 1f, 2f, 1.5f);
        pointsAgainst(MEET, -1f, 1f, 0f);
        pointsAgainst(MEET, 1f, -1f, 0f);
        pointsAgainst(MEET, 0f, 0f, 0f);
        pointsAgainst(MEET, -0f, 0f, 0f);
        pointsAgainst(MEET, 0f, -0f, 0f);
        pointsAgainst(MEET, -0f, -0f, -0f);
        pointsAgainst(MEET, INF, -1f, INF);
        pointsAgainst(MEET, 1f, -INF, -INF);
        pointsAgainst(MEET, INF, INF, INF);
        pointsAgainst(MEET, -INF, -INF, -INF);
        floatAgainst(MEET, HUGE, HUGE, INF);
        floatAgainst(MEET, HUGE, -HUGE, 0f);
        floatAgainst(MEET, HUGE, INF, INF);
        floatAgainst(MEET, TINY, TINY, TINY);
        floatAgainst(MEET, TINY, 2 * TINY, 2 * TINY);
        doubleAgainst(MEET, DHUGE, DHUGE, INF);
        doubleAgainst(MEET, DHUGE, -DHUGE, 0);
        doubleAgainst(MEET, -DHUGE, -INF, -INF);
        doubleAgainst(MEET, DTINY, DTINY, DTINY);
        doubleAgainst(MEET, DTINY, 2 * DTINY, 2 * DTINY);
    }

    private static void meetOfWholes() {
        CHECK.sentence("Terms, order 9 MEET", "of INTS, LONGS v + w (it wraps), halved");
        wholesAgainst(MEET, 5, 9, 7);
        wholesAgainst(MEET, -5, -9, -7);
        wholesAgainst(MEET, 0, 0, 0);
        against(MEET, INTS, INT_MAX, INT_MAX, -1);
        against(MEET, INTS, INT_MAX, 1, INT_MIN / 2);
        against(MEET, INTS, INT_MIN, -1, INT_MAX / 2);
        against(MEET, INTS, INT_MIN, INT_MIN, 0);
        against(MEET, LONGS, LONG_MAX, LONG_MAX, -1);
        against(MEET, LONGS, LONG_MAX, 1, LONG_MIN / 2);
        against(MEET, LONGS, LONG_MIN, -1, LONG_MAX / 2);
        against(MEET, LONGS, LONG_MIN, LONG_MIN, 0);
        against(MEET, LONGS, INT_MAX, INT_MAX, INT_MAX);
    }

    private static void meetOfWholesDownwards() {
        CHECK.sentence("Terms, order 9 MEET", "the greatest whole number that is not above that");
        wholesAgainst(MEET, 5, 8, 6);
        wholesAgainst(MEET, -5, -8, -7);
        wholesAgainst(MEET, 0, 1, 0);
        wholesAgainst(MEET, 0, -1, -1);
        wholesAgainst(MEET, -5, 4, -1);
        wholesAgainst(MEET, INT_MIN, INT_MAX, -1);
        against(MEET, LONGS, LONG_MIN, LONG_MAX, -1);
    }

    private static void turn() {
        CHECK.sentence("Terms, order 10 TURN", "with the other sign");
        points(TURN, 0, 1.5f, -1.5f, -1.5f, 1.5f, 0f, -0f, -0f, 0f, INF, -INF, -INF, INF);
        floats(TURN, 0, TINY, -TINY, -TINY, TINY, HUGE, -HUGE, -HUGE, HUGE);
        doubles(TURN, 0, DTINY, -DTINY, -DTINY, DTINY, DHUGE, -DHUGE, -DHUGE, DHUGE);
    }

    private static void turnOfWholes() {
        CHECK.sentence("Terms, order 10 TURN", "0 less v of INTS, LONGS");
        wholes(TURN, 0, 5, -5, -5, 5, 0, 0, 1, -1, INT_MAX, -INT_MAX);
        ints(TURN, 0, INT_MIN, INT_MIN);
        longs(TURN, 0, LONG_MIN, LONG_MIN, LONG_MAX, -LONG_MAX, INT_MIN, 1L << 31);
    }

    private static void held() {
        CHECK.sentence("Terms, order 11 HELD",
            "the greater of the LEAST of balance k and the lesser of v and its GREATEST");
        int[][] wholes = {{INT_MIN, -3}, {-4, -3}, {-3, -3}, {-2, -2}, {0, 0}, {7, 7}, {8, 8}, {9, 8}, {INT_MAX, 8}};
        for (int[] row : wholes) {
            heldBetween(INTS, -3, 8, row[0], row[1]);
            heldBetween(LONGS, -3, 8, row[0], row[1]);
        }
        heldBetween(LONGS, -3, 8, LONG_MIN, -3);
        heldBetween(LONGS, -3, 8, LONG_MAX, 8);
        heldBetween(INTS, 5, 5, 4, 5);
        heldBetween(INTS, 5, 5, 6, 5);
        double[][] points = {{-INF, -0.0}, {-TINY, -0.0}, {-0.0, -0.0}, {0.0, 0.0}, {0.5, 0.5}, {1.5, 1.5},
            {1.75, 1.5}, {INF, 1.5}};
        for (int sort = FLOATS; sort <= DOUBLES; sort++) {
            for (double[] row : points) {
                heldBetween(sort, bitsOf(sort, -0.0), bitsOf(sort, 1.5), bitsOf(sort, row[0]), bitsOf(sort, row[1]));
            }
            heldBetween(sort, bitsOf(sort, 0.0), bitsOf(sort, 1.5), bitsOf(sort, -0.0), bitsOf(sort, 0.0));
            heldBetween(sort, bitsOf(sort, -1), bitsOf(sort, -0.0), bitsOf(sort, 0.0), bitsOf(sort, -0.0));
            heldBetween(sort, bitsOf(sort, -INF), bitsOf(sort, INF), bitsOf(sort, -7), bitsOf(sort, -7));
            heldBetween(sort, bitsOf(sort, INF), bitsOf(sort, INF), bitsOf(sort, 7), bitsOf(sort, INF));
            heldBetween(sort, bitsOf(sort, -INF), bitsOf(sort, -INF), bitsOf(sort, 7), bitsOf(sort, -INF));
        }
        for (int i = 0; i < 16; i++) {
            int g = i;
            int sort = g / 4;
            BalanceRoom own = roomWith(g, bitsOf(sort, -2), bitsOf(sort, 5));
            own.order(TURN, 0);
            own.order(HELD, g);
            CHECK.due("-5 held by balance " + g + " itself", bitsOf(sort, -2), () -> own.show(g));
        }
    }

    /** The NOW of balance k is its LEAST in one room, its GREATEST in the other one: it must not count. */
    private static void heldBetween(int sort, long least, long greatest, long v, long want) {
        for (int i = 0; i < 4; i++) {
            int g = sort * 4 + i;
            int k = sort * 4 + (i + 3) % 4;
            BalanceRoom low = roomWith(k, greatest, least);
            BalanceRoom high = roomWith(k, least, greatest);
            String call = "HELD of " + v + " on balance " + g + " between " + least + " and " + greatest;
            low.read(g, v);
            low.order(HELD, k);
            CHECK.due(call, want, () -> low.show(g));
            high.read(g, v);
            high.order(HELD, k);
            CHECK.due(call, want, () -> high.show(g));
        }
    }

    private static void part() {
        CHECK.sentence("Terms, order 12 PART", "v less the DOWN of v");
        points(PART, 0, 2.75f, 0.75f, -2.75f, 0.25f, 3f, 0f, -3f, 0f, 0f, 0f, -0f, 0f, 0.5f, 0.5f, -0.5f, 0.5f,
            -0.25f, 0.75f, 0x1p60f, 0f, -0x1p60f, 0f);
        floats(PART, 0, TINY, TINY, -TINY, 1f, 0x1.fffffep-1f, 0x1.fffffep-1f, -0x1p-25f, 1f,
            -0x1.000002p-25f, 0x1.fffffep-1f, 8388607.5f, 0.5f, HUGE, 0f, -HUGE, 0f);
        doubles(PART, 0, DTINY, DTINY, -DTINY, 1, 0x1.fffffffffffffp-1, 0x1.fffffffffffffp-1, -0x1p-54, 1,
            -0x1.0000000000001p-54, 0x1.fffffffffffffp-1, 4503599627370495.5, 0.5, DHUGE, 0, -DHUGE, 0);
    }

    private static void partOfInfiniteOnes() {
        CHECK.sentence("Terms, order 12 PART", "but of infinite ones 0.0 with v's sign");
        points(PART, 0, INF, 0f, -INF, -0f);
    }

    private static void partOfWholes() {
        CHECK.sentence("Terms, order 12 PART", "of INTS, LONGS 0");
        wholes(PART, 0, 7, 0, -7, 0, 0, 0, 1, 0, INT_MIN, 0, INT_MAX, 0);
        longs(PART, 0, LONG_MIN, 0, LONG_MAX, 0);
    }
}
