/** Terms: the sorts, their numbers, what they are told in, and the balances. One method a sentence. */
public final class TermsSortsTest extends Sentences {
    private static final String NEAREST =
        "each operation (+ - *) gives the nearest one of its sort, of two equally near the one whose last bit is 0";

    public static void main(String[] args) {
        runAll(
            TermsSortsTest::fourSorts,
            TermsSortsTest::wholeOnesWrap,
            TermsSortsTest::minusZeroIsTheLesser,
            TermsSortsTest::infiniteOnesAndTheLeastOnes,
            TermsSortsTest::nearestSum,
            TermsSortsTest::nearestDifference,
            TermsSortsTest::nearestProduct,
            TermsSortsTest::nearestOfTheGreatest,
            TermsSortsTest::notANumberIsNeverTaken,
            TermsSortsTest::notANumberNeverComes,
            TermsSortsTest::toldInBits,
            TermsSortsTest::sortOfABalance,
            TermsSortsTest::allZeroAtFirst,
            TermsSortsTest::usedFor512Calls);
    }

    private static void fourSorts() {
        CHECK.sentence("Terms, SORTS",
            "0 INTS (32 bits, with sign), 1 LONGS (64 bits), 2 FLOATS (of 32 bits), 3 DOUBLES (of 64 bits)");
        long[][] ends = {
            {INT_MIN, -1, 0, 1, INT_MAX},
            {LONG_MIN, INT_MIN - 1L, -1, 0, 1, INT_MAX + 1L, LONG_MAX},
            {f(-INF), f(-HUGE), f(-TINY), f(-0f), f(0f), f(TINY), f(0x1.000002p0f), f(HUGE), f(INF)},
            {d(-INF), d(-DHUGE), d(-DTINY), d(-0.0), d(0.0), d(DTINY), d(0x1.0000000000001p0), d(DHUGE), d(INF)},
        };
        for (int sort = 0; sort < 4; sort++) {
            int g = sort * 4;
            for (long v : ends[sort]) {
                CHECK.due("show(" + g + ") of " + v, v, () -> roomWith(g, v).show(g));
            }
        }
    }

    private static void wholeOnesWrap() {
        CHECK.sentence("Terms, SORTS", "INTS and LONGS wrap");
        ints(TURN, 0, INT_MIN, INT_MIN, INT_MAX, -INT_MAX);
        longs(TURN, 0, LONG_MIN, LONG_MIN, LONG_MAX, -LONG_MAX, INT_MIN, 1L << 31);
        against(LIKE, INTS, INT_MIN, -1, INT_MIN);
        against(LIKE, LONGS, LONG_MIN, -1, LONG_MIN);
        against(MEET, INTS, INT_MAX, 1, INT_MIN / 2);
        against(MEET, LONGS, LONG_MAX, 1, LONG_MIN / 2);
        against(MEET, LONGS, INT_MAX, 1, 1L << 30);

        has(roomWith(0, INT_MAX, -2), 0, 2, -2, -2, INT_MAX, INT_MAX, 1);
        has(roomWith(0, INT_MIN, 1), 0, 2, 1, INT_MIN, 1, INT_MAX, -1);
        has(roomWith(4, LONG_MAX, -2), 4, 2, -2, -2, LONG_MAX, LONG_MAX, 1);
        has(roomWith(4, LONG_MIN, 1), 4, 2, 1, LONG_MIN, 1, LONG_MAX, -1);
        has(roomWith(4, INT_MAX, -2), 4, 2, -2, -2, INT_MAX, INT_MAX + 2L, -1);

        CHECK.due("reach of INTS", INT_MAX + INT_MAX / 2, () -> roomWith(0, INT_MAX).reach(0, 0));
        CHECK.due("reach of LONGS", LONG_MAX + LONG_MAX / 2, () -> roomWith(4, LONG_MAX).reach(4, 4));
        CHECK.due("reach of LONGS", INT_MAX + INT_MAX / 2L, () -> roomWith(4, INT_MAX).reach(4, 4));
    }

    private static void minusZeroIsTheLesser() {
        CHECK.sentence("Terms, SORTS", "-0.0 is the lesser of these two, here and below");
        for (int s = FLOATS; s <= DOUBLES; s++) {
            int sort = s;
            int g = sort * 4;
            long zero = bitsOf(sort, 0.0);
            long minusZero = bitsOf(sort, -0.0);
            BalanceRoom falling = roomWith(g, zero, minusZero);
            CHECK.due("LEAST of 0.0, -0.0", minusZero, () -> falling.look(g, LEAST));
            CHECK.due("GREATEST of 0.0, -0.0", zero, () -> falling.look(g, GREATEST));
            BalanceRoom rising = roomWith(g, minusZero, zero);
            CHECK.due("LEAST of -0.0, 0.0", minusZero, () -> rising.look(g, LEAST));
            CHECK.due("GREATEST of -0.0, 0.0", zero, () -> rising.look(g, GREATEST));
            falling.read(g + 1, zero);
            CHECK.due("the greatest NOW of -0.0, 0.0", g + 1, () -> falling.top(sort, true));
            CHECK.due("the least NOW of -0.0, 0.0", g, () -> falling.top(sort, false));
            rising.read(g + 1, minusZero);
            CHECK.due("the greatest NOW of 0.0, -0.0", g, () -> rising.top(sort, true));
            CHECK.due("the least NOW of 0.0, -0.0", g + 1, () -> rising.top(sort, false));
        }
        pointsAgainst(MORE, -0f, 0f, 0f);
        pointsAgainst(MORE, 0f, -0f, 0f);
        pointsAgainst(LESS, -0f, 0f, -0f);
        pointsAgainst(LESS, 0f, -0f, -0f);
        floatAgainst(MORE, -0f, -TINY, -0f);
        floatAgainst(LESS, 0f, TINY, 0f);
        doubleAgainst(MORE, -0.0, -DTINY, -0.0);
        doubleAgainst(LESS, 0.0, DTINY, 0.0);
    }

    private static void infiniteOnesAndTheLeastOnes() {
        CHECK.sentence("Terms, SORTS", "infinite ones and the least ones that are not 0");
        floats(SIGN, 0, TINY, 1f, -TINY, -1f, INF, 1f, -INF, -1f);
        doubles(SIGN, 0, DTINY, 1, -DTINY, -1, INF, 1, -INF, -1);
        floats(UP, 0, TINY, 1f, -TINY, -0f, INF, INF);
        doubles(UP, 0, DTINY, 1, -DTINY, -0.0, INF, INF);
        has(roomWith(8, f(TINY), f(-TINY)), 8, 2, f(-TINY), f(-TINY), f(TINY), f(2 * TINY), f(-1f));
        has(roomWith(12, d(DTINY), d(-DTINY)), 12, 2, d(-DTINY), d(-DTINY), d(DTINY), d(2 * DTINY), d(-1));
        has(roomWith(8, f(0x1p-126f), f(0x0.fffffep-126f)), 8, 2, f(0x0.fffffep-126f), f(0x0.fffffep-126f),
            f(0x1p-126f), f(TINY), f(-1f));
        has(roomWith(12, d(0x0.fffffffffffffp-1022), d(0x1p-1022)), 12, 2, d(0x1p-1022), d(0x0.fffffffffffffp-1022),
            d(0x1p-1022), d(DTINY), d(1));
        has(roomWith(8, f(HUGE), f(-HUGE)), 8, 2, f(-HUGE), f(-HUGE), f(HUGE), f(INF), f(-1f));
        has(roomWith(12, d(-DHUGE), d(DHUGE)), 12, 2, d(DHUGE), d(-DHUGE), d(DHUGE), d(INF), d(1));
        has(roomWith(8, f(HUGE), f(INF)), 8, 2, f(INF), f(HUGE), f(INF), f(INF), f(1f));
        has(roomWith(12, d(-DHUGE), d(-INF)), 12, 2, d(-INF), d(-INF), d(-DHUGE), d(INF), d(-1));
        floatAgainst(MEET, HUGE, HUGE, INF);
        floatAgainst(MEET, -HUGE, -HUGE, -INF);
        doubleAgainst(MEET, DHUGE, DHUGE, INF);
        doubleAgainst(MEET, -DHUGE, -DHUGE, -INF);
    }

    /** The sums are halved behind that; this is exact here. */
    private static void nearestSum() {
        CHECK.sentence("Terms, SORTS, of +", NEAREST);
        floatAgainst(MEET, 0x1p24f, 1f, 0x1p23f);
        floatAgainst(MEET, 0x1p24f, 0x1.000002p0f, 0x1.000002p23f);
        floatAgainst(MEET, 0x1.000002p24f, 1f, 0x1.000004p23f);
        floatAgainst(MEET, 0x1.000002p24f, 0x1.fffffep-1f, 0x1.000002p23f);
        floatAgainst(MEET, -0x1.000002p24f, -1f, -0x1.000004p23f);
        floatAgainst(MEET, 1f, TINY, 0.5f);
        floatAgainst(MEET, 0x1.fffffep0f, 0x1p-24f, 1f);
        doubleAgainst(MEET, 0x1p53, 1, 0x1p52);
        doubleAgainst(MEET, 0x1p53, 0x1.0000000000001p0, 0x1.0000000000001p52);
        doubleAgainst(MEET, 0x1.0000000000001p53, 1, 0x1.0000000000002p52);
        doubleAgainst(MEET, 0x1.0000000000001p53, 0x1.fffffffffffffp-1, 0x1.0000000000001p52);
        doubleAgainst(MEET, -0x1.0000000000001p53, -1, -0x1.0000000000002p52);
        doubleAgainst(MEET, 1, DTINY, 0.5);
        doubleAgainst(MEET, 0x1.fffffffffffffp0, 0x1p-53, 1);
    }

    private static void nearestDifference() {
        CHECK.sentence("Terms, SORTS, of -", NEAREST);
        swings(8, f(0x1p-25f), f(1f), f(1f));
        swings(8, f(0x1.000002p-25f), f(1f), f(0x1.fffffep-1f));
        swings(8, f(0x1.8p-24f), f(1f), f(0x1.fffffcp-1f));
        swings(8, f(1f), f(-0x1p24f), f(0x1p24f));
        swings(8, f(1f), f(-0x1.000002p24f), f(0x1.000004p24f));
        swings(8, f(TINY), f(1f), f(1f));
        swings(12, d(0x1p-54), d(1), d(1));
        swings(12, d(0x1.0000000000001p-54), d(1), d(0x1.fffffffffffffp-1));
        swings(12, d(0x1.8p-53), d(1), d(0x1.ffffffffffffep-1));
        swings(12, d(1), d(-0x1p53), d(0x1p53));
        swings(12, d(1), d(-0x1.0000000000001p53), d(0x1.0000000000002p53));
        swings(12, d(DTINY), d(1), d(1));
    }

    private static void swings(int g, long from, long to, long want) {
        CHECK.due("SWING from " + from + " to " + to, want, () -> roomWith(g, from, to).look(g, SWING));
        CHECK.due("SWING from " + to + " to " + from, want, () -> roomWith(g, to, from).look(g, SWING));
    }

    private static void nearestProduct() {
        CHECK.sentence("Terms, SORTS, of *", NEAREST);
        floatAgainst(MEET, TINY, 0f, 0f);
        floatAgainst(MEET, -TINY, 0f, -0f);
        floatAgainst(MEET, 3 * TINY, 0f, 2 * TINY);
        floatAgainst(MEET, 5 * TINY, 0f, 2 * TINY);
        floatAgainst(MEET, -7 * TINY, 0f, -4 * TINY);
        floatAgainst(MEET, 0x1.000002p-126f, 0f, 0x0.8p-126f);
        floatAgainst(MEET, 0x1.000006p-126f, 0f, 0x0.800004p-126f);
        doubleAgainst(MEET, DTINY, 0, 0);
        doubleAgainst(MEET, -DTINY, 0, -0.0);
        doubleAgainst(MEET, 3 * DTINY, 0, 2 * DTINY);
        doubleAgainst(MEET, 5 * DTINY, 0, 2 * DTINY);
        doubleAgainst(MEET, -7 * DTINY, 0, -4 * DTINY);
        doubleAgainst(MEET, 0x1.0000000000001p-1022, 0, 0x0.8p-1022);
        doubleAgainst(MEET, 0x1.0000000000003p-1022, 0, 0x0.8000000000002p-1022);
        CHECK.due("3 least FLOATS and half of that", f(5 * TINY), () -> roomWith(8, f(3 * TINY)).reach(8, 8));
        CHECK.due("5 least DOUBLES and half of that", d(7 * DTINY), () -> roomWith(12, d(5 * DTINY)).reach(12, 12));
    }

    /** Behind the greatest one the next one in line would be 2^128 (2^1024), and stands for all that are infinite. */
    private static void nearestOfTheGreatest() {
        CHECK.sentence("Terms, SORTS, next to the infinite ones", NEAREST);
        floatAgainst(MEET, HUGE, 0x1p103f, INF);
        floatAgainst(MEET, HUGE, 0x1.fffffep102f, 0x1.fffffep126f);
        floatAgainst(MEET, -HUGE, -0x1p103f, -INF);
        floatAgainst(MEET, 0x1.fffffcp127f, 0x1p103f, 0x1.fffffcp126f);
        doubleAgainst(MEET, DHUGE, 0x1p970, INF);
        doubleAgainst(MEET, DHUGE, 0x1.fffffffffffffp969, 0x1.fffffffffffffp1022);
        doubleAgainst(MEET, -DHUGE, -0x1p970, -INF);
        doubleAgainst(MEET, 0x1.ffffffffffffep1023, 0x1p970, 0x1.ffffffffffffep1022);
        floats(STEP, 0, 0x1.fffffep117f, 0x1.fffffep117f, 0x1p118f, INF, -0x1p118f, -INF);
        doubles(STEP, 0, 0x1.fffffffffffffp1013, 0x1.fffffffffffffp1013, 0x1p1014, INF, -0x1p1014, -INF);
    }

    private static void notANumberIsNeverTaken() {
        CHECK.sentence("Terms, SORTS", "What is not a number is never taken");
        long[] floats = {0x7f800001L, 0x7fc00000L, 0x7fffffffL, 0xff800001L, 0xffc00000L, 0xffffffffL, -1L};
        long[] doubles = {0x7ff0000000000001L, 0x7ff8000000000000L, LONG_MAX, 0xfff0000000000001L,
            0xfff8000000000000L, -1L};
        for (int i = 0; i < 4; i++) {
            refusesAll(8 + i, f(2f), floats);
            refusesAll(12 + i, d(2), doubles);
        }
    }

    private static void refusesAll(int g, long reading, long[] none) {
        BalanceRoom room = new BalanceRoom();
        for (long bits : none) {
            CHECK.argument("read(" + g + ", " + bits + ") as the first one", () -> room.read(g, bits));
        }
        isAsAtFirst(room, g);
        room.read(g, reading);
        for (long bits : none) {
            CHECK.argument("read(" + g + ", " + bits + ")", () -> room.read(g, bits));
        }
        has(room, g, 1, reading, reading, reading, 0, 0);
    }

    private static void notANumberNeverComes() {
        CHECK.sentence("Terms, SORTS", "What is not a number is never taken, and never comes.");
        double[] edges = {0.0, DTINY, TINY, 0.5, 1, 2.5, 0x1p23, 0x1p52, 0x1p118, HUGE, 0x1p1014, DHUGE, INF};
        for (int g = 8; g < 16; g += 4) {
            for (double size : edges) {
                for (double otherSize : edges) {
                    allNumbers(g, size, otherSize);
                    allNumbers(g, -size, otherSize);
                    allNumbers(g, size, -otherSize);
                    allNumbers(g, -size, -otherSize);
                }
            }
        }
    }

    private static void allNumbers(int g, double v, double w) {
        BalanceRoom room = roomWith(g, bitsOf(g / 4, v), bitsOf(g / 4, w));
        room.read(g + 1, bitsOf(g / 4, v));
        for (int what = NOW; what <= TREND; what++) {
            isNumber(g, v + ", " + w + " looked at by " + what, room.look(g, what));
        }
        isNumber(g, "reach of " + v + ", " + w, room.reach(g, g + 1));
        for (int code : ORDERS_AGAINST) {
            makesNumber(room, g, code, g + 1);
        }
        for (int code : ORDERS_ALONE) {
            makesNumber(room, g, code, 0);
        }
        for (int k = 1; k <= 20; k++) {
            makesNumber(room, g, STEP, k);
        }
    }

    private static void makesNumber(BalanceRoom room, int g, int code, int k) {
        String call = "order(" + code + ", " + k + ") on " + room.look(g, NOW) + " against " + room.look(g + 1, NOW);
        room.wipe();
        room.order(code, k);
        try {
            isNumber(g, call, room.show(g));
        } catch (ArithmeticException e) {
            CHECK.compare(call + " throws; the order", Integer.toString(MEET), Integer.toString(code));
        }
    }

    private static void isNumber(int g, String what, long bits) {
        boolean isNone = g < 12 ? Float.isNaN(Float.intBitsToFloat((int) bits))
            : Double.isNaN(Double.longBitsToDouble(bits));
        CHECK.compare(what + " on balance " + g + " is " + bits, "a number", isNone ? "none" : "a number");
    }

    private static void toldInBits() {
        CHECK.sentence("Terms, BITS",
            "an INT is itself; of a FLOAT the 32 bits, as an INT; of a DOUBLE the 64 bits");
        told(0, -1L, -1L);
        told(0, 0xffffffffL, -1L);
        told(0, 0x80000000L, -2147483648L);
        told(0, 0x7fffffffL, 2147483647L);
        told(4, 0xffffffffL, 4294967295L);
        told(8, 0xbf800000L, -1082130432L);
        told(8, 0x80000000L, -2147483648L);
        told(8, 0xff800000L, -8388608L);
        told(8, 0x7f800000L, 2139095040L);
        told(12, 0xbff0000000000000L, -4616189618054758400L);
        told(12, 0x8000000000000000L, LONG_MIN);
        told(12, 0x80000000L, 2147483648L);
    }

    private static void told(int g, long bits, long want) {
        BalanceRoom room = roomWith(g, bits);
        String of = " on balance " + g + " with the bits " + bits;
        CHECK.due("show" + of, want, () -> room.show(g));
        CHECK.due("NOW" + of, want, () -> room.look(g, NOW));
        CHECK.due("LEAST" + of, want, () -> room.look(g, LEAST));
        CHECK.due("GREATEST" + of, want, () -> room.look(g, GREATEST));
    }

    /** Bits that each of the four sorts reads, and that UP makes something else of in each. */
    private static void sortOfABalance() {
        CHECK.sentence("Terms, BALANCES", "BALANCES 0 .. 15: balance g is of sort g / 4.");
        long bits = 0x3ff80000_80000001L;
        long[] now = {-2147483647, bits, -2147483647, bits};
        long[] up = {-2147483647, bits, f(-0f), d(2)};
        for (int i = 0; i < 16; i++) {
            int g = i;
            BalanceRoom room = roomWith(g, bits);
            CHECK.due("NOW of balance " + g, now[g / 4], () -> room.look(g, NOW));
            room.order(UP, 0);
            CHECK.due("UP on balance " + g, up[g / 4], () -> room.show(g));
            for (int k = 0; k < 16; k++) {
                isOfOneSort(g, k);
            }
        }
    }

    private static void isOfOneSort(int g, int k) {
        BalanceRoom room = roomWith(g, 1);
        room.read(k, 1);
        room.order(MORE, k);
        String call = "MORE on balance " + g + " against " + k;
        if (g / 4 == k / 4) {
            CHECK.due(call, 1, () -> room.show(g));
        } else {
            CHECK.state(call, () -> room.show(g));
        }
    }

    private static void allZeroAtFirst() {
        CHECK.sentence("Terms, BALANCES", "all are 0 (0.0) at first");
        BalanceRoom room = new BalanceRoom();
        for (int g = 0; g < 16; g++) {
            isAsAtFirst(room, g);
        }
    }

    private static void usedFor512Calls() {
        CHECK.sentence("What it is", "An object is used for at most 512 calls after it has been made");
        for (int i = 0; i < 16; i++) {
            int g = i;
            BalanceRoom room = new BalanceRoom();
            for (int n = 1; n <= 512; n++) {
                int reading = n;
                CHECK.due("reading " + n + " of balance " + g, n, () -> room.read(g, reading));
            }
        }
    }
}
