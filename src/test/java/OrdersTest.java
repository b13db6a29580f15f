/** What each order does with numbers of each sort, with the edges that the document names. */
public final class OrdersTest {
    private static final Check CHECK = new Check();
    private static final float INF = Float.POSITIVE_INFINITY;
    private static final float TINY = Float.MIN_VALUE;
    private static final double DINF = Double.POSITIVE_INFINITY;
    private static final double DTINY = Double.MIN_VALUE;

    public static void main(String[] args) {
        sizeAndSignAndTurn();
        wholeOnes();
        like();
        moreAndLess();
        step();
        meet();
        held();
        part();
        CHECK.end();
    }

    private static void sizeAndSignAndTurn() {
        ints(0, 0, 5, 5, -5, 5, 0, 0, Integer.MIN_VALUE, Integer.MIN_VALUE);
        longs(0, 0, 5, 5, -5, 5, 0, 0, Long.MIN_VALUE, Long.MIN_VALUE, Integer.MIN_VALUE, 1L << 31);
        floats(0, 0, 1.5f, 1.5f, -1.5f, 1.5f, -0f, 0f, 0f, 0f, -INF, INF, -TINY, TINY);
        doubles(0, 0, 1.5, 1.5, -1.5, 1.5, -0.0, 0.0, -DINF, DINF, -DTINY, DTINY);
        ints(4, 0, 5, 1, -5, -1, 0, 0, Integer.MIN_VALUE, -1, Integer.MAX_VALUE, 1);
        longs(4, 0, 5, 1, -5, -1, 0, 0, Long.MIN_VALUE, -1, Long.MAX_VALUE, 1);
        floats(4, 0, 7f, 1f, -7f, -1f, 0f, 0f, -0f, -0f, TINY, 1f, -TINY, -1f, INF, 1f, -INF, -1f);
        doubles(4, 0, 7, 1, -7, -1, 0.0, 0.0, -0.0, -0.0, DTINY, 1, -DTINY, -1, DINF, 1, -DINF, -1);
        ints(10, 0, 5, -5, -5, 5, 0, 0, Integer.MIN_VALUE, Integer.MIN_VALUE);
        longs(10, 0, 5, -5, -5, 5, 0, 0, Long.MIN_VALUE, Long.MIN_VALUE, Integer.MIN_VALUE, 1L << 31);
        floats(10, 0, 1.5f, -1.5f, 0f, -0f, -0f, 0f, INF, -INF, -TINY, TINY);
        doubles(10, 0, 1.5, -1.5, 0.0, -0.0, -0.0, 0.0, DINF, -DINF, -DTINY, DTINY);
    }

    private static void wholeOnes() {
        for (int code = 1; code <= 3; code++) {
            ints(code, 0, 7, 7, -7, -7, Integer.MIN_VALUE, Integer.MIN_VALUE);
            longs(code, 0, 7, 7, -7, -7, Long.MAX_VALUE, Long.MAX_VALUE);
            floats(code, 0, 0f, 0f, -0f, -0f, 3f, 3f, -3f, -3f, INF, INF, -INF, -INF, 8388609f, 8388609f,
                -Float.MAX_VALUE, -Float.MAX_VALUE);
            doubles(code, 0, 0.0, 0.0, -0.0, -0.0, 3, 3, -3, -3, DINF, DINF, -DINF, -DINF,
                4503599627370497.0, 4503599627370497.0, -Double.MAX_VALUE, -Double.MAX_VALUE);
        }
        floats(1, 0, 2.5f, 2f, -2.5f, -3f, 0.5f, 0f, -0.5f, -1f, TINY, 0f, -TINY, -1f, 0.99999994f, 0f,
            4194303.5f, 4194303f, -4194303.5f, -4194304f, 1.9999999f, 1f, 8388607.5f, 8388607f, -8388607.5f, -8388608f);
        floats(2, 0, 2.5f, 3f, -2.5f, -2f, 0.5f, 1f, -0.5f, -0f, TINY, 1f, -TINY, -0f, -0.99999994f, -0f,
            4194303.5f, 4194304f, 1.0000001f, 2f, 8388607.5f, 8388608f, -8388607.5f, -8388607f);
        floats(3, 0, 2.5f, 2f, 3.5f, 4f, -2.5f, -2f, -3.5f, -4f, 0.5f, 0f, -0.5f, -0f, 1.5f, 2f, 0.50000006f, 1f,
            0.49999997f, 0f, -0.49999997f, -0f, -0.75f, -1f, 0.25f, 0f, TINY, 0f, -TINY, -0f,
            4194303.5f, 4194304f, 8388607.5f, 8388608f, 4194304.5f, 4194304f, 4194302.5f, 4194302f,
            2.4999998f, 2f, 2.5000002f, 3f);
        doubles(1, 0, 2.5, 2, -2.5, -3, 0.5, 0, -0.5, -1, DTINY, 0, -DTINY, -1, 0.9999999999999999, 0,
            2251799813685247.5, 2251799813685247.0, -2251799813685247.5, -2251799813685248.0,
            4503599627370495.5, 4503599627370495.0, -4503599627370495.5, -4503599627370496.0);
        doubles(2, 0, 2.5, 3, -2.5, -2, 0.5, 1, -0.5, -0.0, DTINY, 1, -DTINY, -0.0, -0.9999999999999999, -0.0,
            2251799813685247.5, 2251799813685248.0, 1.0000000000000002, 2, 4503599627370495.5, 4503599627370496.0);
        doubles(3, 0, 2.5, 2, 3.5, 4, -2.5, -2, -3.5, -4, 0.5, 0, -0.5, -0.0, 1.5, 2, 0.5000000000000001, 1,
            0.49999999999999994, 0, -0.49999999999999994, -0.0, -0.75, -1, DTINY, 0, -DTINY, -0.0,
            2251799813685247.5, 2251799813685248.0, 2251799813685246.5, 2251799813685246.0,
            4503599627370495.5, 4503599627370496.0, 4503599627370494.5, 4503599627370494.0);
    }

    private static void like() {
        against(5, 1, 7, 3, 7);
        against(5, 1, -7, 3, 7);
        against(5, 1, 7, -3, -7);
        against(5, 1, -7, 0, 7);
        against(5, 0, Integer.MIN_VALUE, -1, Integer.MIN_VALUE);
        against(5, 0, Integer.MIN_VALUE, 1, Integer.MIN_VALUE);
        against(5, 4, Long.MIN_VALUE, -1, Long.MIN_VALUE);
        against(5, 4, 1L << 40, -1, -(1L << 40));
        againstFloat(5, 2.5f, -0f, -2.5f);
        againstFloat(5, -2.5f, 0f, 2.5f);
        againstFloat(5, -0f, 7f, 0f);
        againstFloat(5, 0f, -INF, -0f);
        againstFloat(5, INF, -TINY, -INF);
        againstDouble(5, 2.5, -0.0, -2.5);
        againstDouble(5, -DINF, 0.0, DINF);
        againstDouble(5, 0.0, -3, -0.0);
    }

    private static void moreAndLess() {
        pair(0, 5, -6);
        pair(0, Integer.MAX_VALUE, Integer.MIN_VALUE);
        pair(4, Long.MAX_VALUE, Long.MIN_VALUE);
        pair(4, 7, 7);
        pair(8, f(1f), f(-2f));
        pair(8, f(-1f), f(-2f));
        pair(8, f(0f), f(-0f));
        pair(8, f(INF), f(Float.MAX_VALUE));
        pair(8, f(-0f), f(-TINY));
        pair(8, f(-Float.MAX_VALUE), f(-INF));
        pair(12, d(0.0), d(-0.0));
        pair(12, d(-1.5), d(-1.75));
        pair(12, d(DTINY), d(0.0));
        pair(12, d(DINF), d(-DINF));
    }

    private static void pair(int g, long greater, long lesser) {
        against(6, g, greater, lesser, greater);
        against(6, g, lesser, greater, greater);
        against(7, g, greater, lesser, lesser);
        against(7, g, lesser, greater, lesser);
    }

    private static void step() {
        ints(8, 0, 7, 7, -7, -7);
        ints(8, 9, 7, 7, -7, -7);
        ints(8, 10, 7, 7, -7, -7);
        ints(8, 11, 7, 6, -7, -8, 0, 0, Integer.MAX_VALUE, Integer.MAX_VALUE - 1);
        ints(8, 20, 1023, 0, 1024, 1024, -1, -1024, Integer.MIN_VALUE, Integer.MIN_VALUE,
            Integer.MAX_VALUE, 0x7ffffc00);
        longs(8, 5, 7, 7, -7, -7);
        longs(8, 13, 15, 8, -15, -16, Long.MIN_VALUE, Long.MIN_VALUE, Long.MAX_VALUE, Long.MAX_VALUE - 7);
        floats(8, 10, 2.5f, 2f, -0.5f, -0f, 3.5f, 4f);
        floats(8, 11, 3f, 4f, 1f, 0f, 5f, 4f, -1f, -0f, 7f, 8f, INF, INF, -INF, -INF, -0f, -0f);
        floats(8, 9, 0.25f, 0f, 0.75f, 1f, 1.3f, 1.5f, -0.25f, -0f, -0.3f, -0.5f);
        floats(8, 20, 512f, 0f, 1536f, 2048f, 513f, 1024f, TINY, 0f, -TINY, -0f, Float.MAX_VALUE, Float.MAX_VALUE);
        floats(8, 0, 0.00048828125f, 0f, 0.0005f, 0.0009765625f, TINY, 0f, Float.MAX_VALUE, INF,
            -Float.MAX_VALUE, -INF, 0x1p117f, 0x1p117f, 0x1p118f, INF);
        doubles(8, 10, 2.5, 2, -0.5, -0.0);
        doubles(8, 11, 3, 4, 1, 0, -1, -0.0, DINF, DINF);
        doubles(8, 9, 0.25, 0, 0.75, 1, 1.3, 1.5);
        doubles(8, 20, 512, 0, 1536, 2048, DTINY, 0, -DTINY, -0.0, Double.MAX_VALUE, Double.MAX_VALUE);
        doubles(8, 0, 0.00048828125, 0, 0.0005, 0.0009765625, Double.MAX_VALUE, DINF, 0x1p1013, 0x1p1013,
            0x1p1014, DINF, -0x1p1014, -DINF);
    }

    private static void meet() {
        against(9, 0, 5, 8, 6);
        against(9, 0, -5, -8, -7);
        against(9, 0, -5, 4, -1);
        against(9, 0, Integer.MAX_VALUE, 1, Integer.MIN_VALUE / 2);
        against(9, 0, Integer.MIN_VALUE, -1, Integer.MAX_VALUE / 2);
        against(9, 4, Long.MAX_VALUE, 1, Long.MIN_VALUE / 2);
        against(9, 4, Integer.MAX_VALUE, 1, 1 << 30);
        againstFloat(9, 1f, 2f, 1.5f);
        againstFloat(9, -1f, 1f, 0f);
        againstFloat(9, -0f, -0f, -0f);
        againstFloat(9, -0f, 0f, 0f);
        againstFloat(9, Float.MAX_VALUE, Float.MAX_VALUE, INF);
        againstFloat(9, INF, -1f, INF);
        againstFloat(9, 1f, -INF, -INF);
        againstFloat(9, -INF, -INF, -INF);
        againstFloat(9, TINY, 0f, 0f);
        againstFloat(9, -TINY, 0f, -0f);
        againstFloat(9, TINY, 2 * TINY, 2 * TINY);
        againstFloat(9, 3 * TINY, 2 * TINY, 2 * TINY);
        againstFloat(9, 16777216f, 1f, 8388608f);
        againstFloat(9, 16777216f, 3f, 8388610f);
        againstDouble(9, 1, 2, 1.5);
        againstDouble(9, 0.1, 0.2, (0.1 + 0.2) * 0.5);
        againstDouble(9, -0.0, -0.0, -0.0);
        againstDouble(9, Double.MAX_VALUE, Double.MAX_VALUE, DINF);
        againstDouble(9, DTINY, 0, 0);
        againstDouble(9, 3 * DTINY, 0, 2 * DTINY);
        againstDouble(9, 9007199254740992.0, 1, 4503599627370496.0);
        againstDouble(9, 9007199254740992.0, 3, 4503599627370498.0);
    }

    private static void held() {
        long[][] ofInts = {{-9, -3}, {-3, -3}, {0, 0}, {8, 8}, {99, 8}};
        for (long[] row : ofInts) {
            heldBetween(0, -3, 8, row[0], row[1]);
            heldBetween(4, -3, 8, row[0], row[1]);
        }
        float[][] ofFloats = {{-9f, -0f}, {-0f, -0f}, {0f, 0f}, {0.5f, 0.5f}, {2f, 1.5f}, {INF, 1.5f}, {-INF, -0f}};
        for (float[] row : ofFloats) {
            heldBetween(8, f(-0f), f(1.5f), f(row[0]), f(row[1]));
            heldBetween(12, d(-0.0), d(1.5), d(row[0]), d(row[1]));
        }
        heldBetween(12, d(0.0), d(1.5), d(-0.0), d(0.0));
        heldBetween(8, f(-1f), f(-0f), f(0f), f(-0f));
    }

    private static void heldBetween(int g, long least, long greatest, long v, long want) {
        BalanceRoom room = new BalanceRoom();
        room.read(g + 1, greatest);
        room.read(g + 1, least);
        room.read(g + 1, greatest);
        room.read(g, v);
        room.order(11, g + 1);
        CHECK.due("HELD of " + v + " on " + g, want, () -> room.show(g));
    }

    private static void part() {
        ints(12, 0, 7, 0, -7, 0, Integer.MIN_VALUE, 0);
        longs(12, 0, 7, 0, -7, 0, Long.MIN_VALUE, 0);
        floats(12, 0, 2.75f, 0.75f, -2.75f, 0.25f, 3f, 0f, -3f, 0f, 0f, 0f, -0f, 0f, INF, 0f, -INF, -0f,
            TINY, TINY, -TINY, 1f, -0.25f, 0.75f, 16777216f, 0f, -1e-8f, 1f);
        doubles(12, 0, 2.75, 0.75, -2.75, 0.25, 3, 0, -3, 0, 0.0, 0.0, -0.0, 0.0, DINF, 0, -DINF, -0.0,
            DTINY, DTINY, -DTINY, 1, -0.1, 0.9, -1e-17, 1);
    }

    private static void ints(int code, int k, int... pairs) {
        for (int i = 0; i < pairs.length; i += 2) {
            alone(code, k, 2, pairs[i], pairs[i + 1]);
        }
    }

    private static void longs(int code, int k, long... pairs) {
        for (int i = 0; i < pairs.length; i += 2) {
            alone(code, k, 5, pairs[i], pairs[i + 1]);
        }
    }

    private static void floats(int code, int k, float... pairs) {
        for (int i = 0; i < pairs.length; i += 2) {
            alone(code, k, 8, f(pairs[i]), f(pairs[i + 1]));
        }
    }

    private static void doubles(int code, int k, double... pairs) {
        for (int i = 0; i < pairs.length; i += 2) {
            alone(code, k, 15, d(pairs[i]), d(pairs[i + 1]));
        }
    }

    private static void alone(int code, int k, int g, long v, long want) {
        BalanceRoom room = new BalanceRoom();
        room.read(g, v);
        room.order(code, k);
        CHECK.due("order(" + code + ", " + k + ") on balance " + g + " with " + v, want, () -> room.show(g));
    }

    private static void againstFloat(int code, float v, float w, float want) {
        against(code, 8, f(v), f(w), f(want));
    }

    private static void againstDouble(int code, double v, double w, double want) {
        against(code, 12, d(v), d(w), d(want));
    }

    private static void against(int code, int g, long v, long w, long want) {
        BalanceRoom room = new BalanceRoom();
        room.read(g, v);
        room.read(g + 1, v);
        room.read(g + 1, w);
        room.order(code, g + 1);
        CHECK.due("order(" + code + ") of " + v + " against " + w + " on " + g, want, () -> room.show(g));
    }

    private static long f(float v) {
        return Check.bits(v);
    }

    private static long d(double v) {
        return Check.bits(v);
    }
}
