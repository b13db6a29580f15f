/** Promises 8 and 9: reach and top. One method a sentence. */
public final class PromisesCompareTest extends Sentences {
    private static final String TOGETHER =
        "with x, y the SIZES of their NOWS the greater of these and half of the lesser";

    public static void main(String[] args) {
        runAll(
            PromisesCompareTest::reachOfWholes,
            PromisesCompareTest::reachOfWholesDownwards,
            PromisesCompareTest::reachOfTheLeastWholes,
            PromisesCompareTest::reachOfPoints,
            PromisesCompareTest::reachOfNone,
            PromisesCompareTest::reachOfUnlikeSorts,
            PromisesCompareTest::reachWithoutReading,
            PromisesCompareTest::greatestNow,
            PromisesCompareTest::leastNow,
            PromisesCompareTest::withAReading,
            PromisesCompareTest::lowestNumber,
            PromisesCompareTest::topWithoutAny,
            PromisesCompareTest::noSuchSort);
    }

    private static void reachOfWholes() {
        CHECK.sentence("Promise 8, of INTS and LONGS", TOGETHER);
        for (int sort = INTS; sort <= LONGS; sort++) {
            reaches(sort, 10, 6, 13);
            reaches(sort, -6, 10, 13);
            reaches(sort, 4, -10, 12);
            reaches(sort, -4, -10, 12);
            reaches(sort, 0, 0, 0);
            reaches(sort, 0, -9, 9);
            reaches(sort, 8, 8, 12);
            reaches(sort, 8, -8, 12);
        }
        reaches(INTS, INT_MAX, INT_MAX - 1, INT_MAX + (INT_MAX - 1) / 2);
        reaches(LONGS, INT_MAX, INT_MAX - 1, INT_MAX + (INT_MAX - 1L) / 2);
        reaches(LONGS, 1L << 40, -4, (1L << 40) + 2);
        reaches(LONGS, LONG_MAX, LONG_MAX - 1, LONG_MAX + (LONG_MAX - 1) / 2);
    }

    private static void reachOfWholesDownwards() {
        CHECK.sentence("Promise 8", "of INTS, LONGS halved downwards");
        for (int sort = INTS; sort <= LONGS; sort++) {
            reaches(sort, 10, 7, 13);
            reaches(sort, 10, -7, 13);
            reaches(sort, 5, 1, 5);
            reaches(sort, -5, -1, 5);
            reaches(sort, 3, 3, 4);
            reaches(sort, 1, 1, 1);
        }
    }

    /** The least INT and LONG are their own SIZE, and so the lesser. */
    private static void reachOfTheLeastWholes() {
        CHECK.sentence("Promise 8, of the least INT and LONG", TOGETHER);
        reaches(INTS, INT_MIN, 5, 5 + INT_MIN / 2);
        reaches(INTS, INT_MIN, 0, INT_MIN / 2);
        reaches(INTS, INT_MIN, INT_MAX, INT_MAX + INT_MIN / 2);
        reaches(INTS, INT_MIN, INT_MIN, INT_MIN / 2 * 3);
        reaches(LONGS, LONG_MIN, 5, 5 + LONG_MIN / 2);
        reaches(LONGS, LONG_MIN, LONG_MIN, LONG_MIN / 2 * 3);
        reaches(LONGS, INT_MIN, 4, (1L << 31) + 2);
    }

    private static void reachOfPoints() {
        CHECK.sentence("Promise 8, of FLOATS and DOUBLES", TOGETHER);
        for (int sort = FLOATS; sort <= DOUBLES; sort++) {
            double[][] rows = {{3, -4, 5.5}, {-3, 4, 5.5}, {-0.0, -0.0, 0.0}, {-0.0, -7, 7}, {1, 1, 1.5},
                {INF, -INF, INF}, {1, -INF, INF}, {-INF, -0.0, INF}, {0.5, 0.25, 0.625}};
            for (double[] row : rows) {
                reaches(sort, bitsOf(sort, row[0]), bitsOf(sort, row[1]), bitsOf(sort, row[2]));
            }
        }
        reaches(FLOATS, f(HUGE), f(HUGE), f(INF));
        reaches(FLOATS, f(HUGE), f(0x1p104f), f(INF));
        reaches(FLOATS, f(HUGE), f(0x1.fffffep103f), f(HUGE));
        reaches(FLOATS, f(TINY), f(0f), f(TINY));
        reaches(FLOATS, f(TINY), f(TINY), f(TINY));
        reaches(FLOATS, f(3 * TINY), f(3 * TINY), f(5 * TINY));
        reaches(FLOATS, f(0x1p24f), f(2f), f(0x1p24f));
        reaches(FLOATS, f(0x1.000002p24f), f(2f), f(0x1.000004p24f));
        reaches(DOUBLES, d(DHUGE), d(DHUGE), d(INF));
        reaches(DOUBLES, d(DHUGE), d(0x1p971), d(INF));
        reaches(DOUBLES, d(DHUGE), d(0x1.fffffffffffffp970), d(DHUGE));
        reaches(DOUBLES, d(DTINY), d(DTINY), d(DTINY));
        reaches(DOUBLES, d(0x1p53), d(2), d(0x1p53));
        reaches(DOUBLES, d(0x1.0000000000001p53), d(2), d(0x1.0000000000002p53));
    }

    private static void reaches(int sort, long v, long w, long want) {
        for (int i = 0; i < 4; i++) {
            int a = sort * 4 + i;
            int b = sort * 4 + (i + 1) % 4;
            BalanceRoom room = roomWith(a, w, v);
            room.read(b, v);
            room.read(b, w);
            String of = " of " + v + " and " + w;
            CHECK.due("reach(" + a + ", " + b + ")" + of, want, () -> room.reach(a, b));
            CHECK.due("reach(" + b + ", " + a + ")" + of, want, () -> room.reach(b, a));
            CHECK.due("COUNT behind reach", 2, () -> room.look(a, COUNT));
            if (v == w) {
                CHECK.due("reach(" + a + ", " + a + ")" + of, want, () -> room.reach(a, a));
            }
        }
    }

    private static void reachOfNone() {
        CHECK.sentence("Promise 8", "IllegalArgumentException: one of them is none");
        BalanceRoom room = roomWith(0, 1);
        room.read(15, 1);
        for (int g : NO_BALANCES) {
            CHECK.argument("reach(" + g + ", 0)", () -> room.reach(g, 0));
            CHECK.argument("reach(0, " + g + ")", () -> room.reach(0, g));
            CHECK.argument("reach(15, " + g + ")", () -> room.reach(15, g));
            CHECK.argument("reach(7, " + g + ")", () -> room.reach(7, g));
            CHECK.argument("reach(" + g + ", 7)", () -> room.reach(g, 7));
            CHECK.argument("reach(" + g + ", " + g + ")", () -> room.reach(g, g));
        }
        CHECK.due("reach(0, 0)", 1, () -> room.reach(0, 0));
        CHECK.due("reach(15, 15)", 1, () -> room.reach(15, 15));
    }

    private static void reachOfUnlikeSorts() {
        CHECK.sentence("Promise 8", "IllegalStateException: they are of unlike sorts");
        for (int i = 0; i < 16; i++) {
            for (int j = 0; j < 16; j++) {
                int a = i;
                int b = j;
                BalanceRoom room = roomWith(a, 0);
                room.read(b, 0);
                if (a / 4 == b / 4) {
                    CHECK.due("reach(" + a + ", " + b + ")", 0, () -> room.reach(a, b));
                } else {
                    CHECK.state("reach(" + a + ", " + b + ")", () -> room.reach(a, b));
                }
            }
        }
    }

    private static void reachWithoutReading() {
        CHECK.sentence("Promise 8", "or one has no READING");
        for (int i = 0; i < 16; i++) {
            int a = i;
            int b = a / 4 * 4 + (a + 1) % 4;
            BalanceRoom room = new BalanceRoom();
            CHECK.state("reach(" + a + ", " + b + ") without any", () -> room.reach(a, b));
            CHECK.state("reach(" + a + ", " + a + ") without any", () -> room.reach(a, a));
            room.read(a, 0);
            CHECK.state("reach(" + a + ", " + b + "), the second without", () -> room.reach(a, b));
            CHECK.state("reach(" + b + ", " + a + "), the first without", () -> room.reach(b, a));
            room.read(b, 0);
            CHECK.due("reach(" + a + ", " + b + ")", 0, () -> room.reach(a, b));
            room.forget(a);
            CHECK.state("reach(" + a + ", " + b + "), the first forgotten", () -> room.reach(a, b));
        }
    }

    private static void greatestNow() {
        CHECK.sentence("Promise 9", "the number of the one with the greatest NOW (greatest)");
        everyPlace(true);
    }

    private static void leastNow() {
        CHECK.sentence("Promise 9", "or the least one");
        everyPlace(false);
    }

    /** Of each two neighbours in these rising rows, on any two balances of a sort; both were once beyond the other. */
    private static void everyPlace(boolean greatest) {
        long[][] rising = {
            {INT_MIN, -2, -1, 0, 1, 2, INT_MAX},
            {LONG_MIN, INT_MIN - 1L, -1, 0, 1, INT_MAX + 1L, LONG_MAX},
            {f(-INF), f(-HUGE), f(-1f), f(-TINY), f(-0f), f(0f), f(TINY), f(1f), f(HUGE), f(INF)},
            {d(-INF), d(-DHUGE), d(-1), d(-DTINY), d(-0.0), d(0.0), d(DTINY), d(1), d(DHUGE), d(INF)},
        };
        for (int s = 0; s < 4; s++) {
            int sort = s;
            long lowest = rising[sort][0];
            long highest = rising[sort][rising[sort].length - 1];
            for (int place = 0; place < 12; place++) {
                int low = sort * 4 + place / 3;
                int high = sort * 4 + (place / 3 + 1 + place % 3) % 4;
                for (int i = 1; i < rising[sort].length; i++) {
                    BalanceRoom room = roomWith(low, highest, rising[sort][i - 1]);
                    room.read(high, lowest);
                    room.read(high, rising[sort][i]);
                    CHECK.due("top(" + sort + ", " + greatest + ")", greatest ? high : low,
                        () -> room.top(sort, greatest));
                }
            }
        }
    }

    private static void withAReading() {
        CHECK.sentence("Promise 9", "Of the balances of a sort that have a READING");
        for (int i = 0; i < 16; i++) {
            int g = i;
            int sort = g / 4;
            BalanceRoom room = roomWith(g, bitsOf(sort, -5));
            CHECK.due("top(" + sort + ", true) of one below 0", g, () -> room.top(sort, true));
            CHECK.due("top(" + sort + ", false) of one below 0", g, () -> room.top(sort, false));
            room.read(g, bitsOf(sort, 5));
            CHECK.due("top(" + sort + ", true) of one above 0", g, () -> room.top(sort, true));
            CHECK.due("top(" + sort + ", false) of one above 0", g, () -> room.top(sort, false));
            int other = sort * 4 + (g + 1) % 4;
            room.read(other, bitsOf(sort, 9));
            CHECK.due("top(" + sort + ", true) of two", other, () -> room.top(sort, true));
            room.forget(other);
            CHECK.due("top(" + sort + ", true) with one forgotten", g, () -> room.top(sort, true));
        }
    }

    private static void lowestNumber() {
        CHECK.sentence("Promise 9", "of several the lowest number");
        for (int s = 0; s < 4; s++) {
            int sort = s;
            for (int set = 1; set < 16; set++) {
                BalanceRoom room = new BalanceRoom();
                for (int i = 3; i >= 0; i--) {
                    if ((set >> i & 1) == 1) {
                        room.read(sort * 4 + i, bitsOf(sort, -3));
                    }
                }
                int lowest = sort * 4 + Integer.numberOfTrailingZeros(set);
                CHECK.due("top(" + sort + ", true) of the set " + set, lowest, () -> room.top(sort, true));
                CHECK.due("top(" + sort + ", false) of the set " + set, lowest, () -> room.top(sort, false));
            }
            BalanceRoom room = new BalanceRoom();
            double[] numbers = {2, 7, 2, 7};
            for (int i = 0; i < 4; i++) {
                room.read(sort * 4 + i, bitsOf(sort, numbers[i]));
            }
            CHECK.due("top(" + sort + ", true) of 2, 7, 2, 7", sort * 4 + 1, () -> room.top(sort, true));
            CHECK.due("top(" + sort + ", false) of 2, 7, 2, 7", sort * 4, () -> room.top(sort, false));
        }
    }

    private static void topWithoutAny() {
        CHECK.sentence("Promise 9", "NONE without any");
        for (int s = 0; s < 4; s++) {
            int sort = s;
            BalanceRoom room = new BalanceRoom();
            for (int g = 0; g < 16; g++) {
                if (g / 4 != sort) {
                    room.read(g, 1);
                }
            }
            CHECK.due("top(" + sort + ", true)", BalanceRoom.NONE, () -> room.top(sort, true));
            CHECK.due("top(" + sort + ", false)", BalanceRoom.NONE, () -> room.top(sort, false));
            room.read(sort * 4, 1);
            room.forget(sort * 4);
            CHECK.due("top(" + sort + ", true) of a forgotten one", BalanceRoom.NONE, () -> room.top(sort, true));
        }
    }

    private static void noSuchSort() {
        CHECK.sentence("Promise 9", "IllegalArgumentException: there is no such sort");
        BalanceRoom room = roomWith(0, 1);
        room.read(15, 1);
        int[] none = {-1, 4, INT_MIN, INT_MAX, 1 << 30};
        for (int sort : none) {
            CHECK.argument("top(" + sort + ", true)", () -> room.top(sort, true));
            CHECK.argument("top(" + sort + ", false)", () -> room.top(sort, false));
        }
        CHECK.due("top(0, true)", 0, () -> room.top(0, true));
        CHECK.due("top(3, false)", 15, () -> room.top(3, false));
    }
}
