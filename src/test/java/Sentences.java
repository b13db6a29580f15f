/** What the tests of the document's sentences share: names, bits, and rows of due answers. */
abstract class Sentences {
    static final int SIZE = 0;
    static final int DOWN = 1;
    static final int UP = 2;
    static final int NEAR = 3;
    static final int SIGN = 4;
    static final int LIKE = 5;
    static final int MORE = 6;
    static final int LESS = 7;
    static final int STEP = 8;
    static final int MEET = 9;
    static final int TURN = 10;
    static final int HELD = 11;
    static final int PART = 12;

    static final int COUNT = 0;
    static final int NOW = 1;
    static final int LEAST = 2;
    static final int GREATEST = 3;
    static final int SWING = 4;
    static final int TREND = 5;

    static final int INTS = 0;
    static final int LONGS = 1;
    static final int FLOATS = 2;
    static final int DOUBLES = 3;

    static final int INT_MIN = Integer.MIN_VALUE;
    static final int INT_MAX = Integer.MAX_VALUE;
    static final long LONG_MIN = Long.MIN_VALUE;
    static final long LONG_MAX = Long.MAX_VALUE;
    static final float INF = Float.POSITIVE_INFINITY;
    static final float TINY = Float.MIN_VALUE;
    static final float HUGE = Float.MAX_VALUE;
    static final double DTINY = Double.MIN_VALUE;
    static final double DHUGE = Double.MAX_VALUE;

    /** Of each sort the lowest and the highest number. */
    static final long[] LOWEST = {INT_MIN, LONG_MIN, Check.bits(-INF), Check.bits((double) -INF)};
    static final long[] HIGHEST = {INT_MAX, LONG_MAX, Check.bits(INF), Check.bits((double) INF)};

    /** The nearest arguments on each side of the balances 0 .. 15, and the farthest ones. */
    static final int[] NO_BALANCES = {-1, 16, INT_MIN, INT_MAX};
    static final int[] ORDERS_AGAINST = {LIKE, MORE, LESS, MEET, HELD};
    static final int[] ORDERS_ALONE = {SIZE, DOWN, UP, NEAR, SIGN, STEP, TURN, PART};

    static final Check CHECK = new Check();

    /** Each test is that of one sentence, and names it first. */
    static void runAll(Runnable... tests) {
        for (Runnable test : tests) {
            CHECK.run(test);
        }
        CHECK.end();
    }

    static long f(float v) {
        return Check.bits(v);
    }

    static long d(double v) {
        return Check.bits(v);
    }

    /** A plain number, told in the bits of its sort. */
    static long bitsOf(int sort, double v) {
        switch (sort) {
            case INTS: return (int) v;
            case LONGS: return (long) v;
            case FLOATS: return f((float) v);
            default: return d(v);
        }
    }

    static void has(BalanceRoom room, int g, long count, long now, long least, long greatest, long swing, long trend) {
        CHECK.due("COUNT of balance " + g, count, () -> room.look(g, COUNT));
        CHECK.due("NOW of balance " + g, now, () -> room.look(g, NOW));
        CHECK.due("LEAST of balance " + g, least, () -> room.look(g, LEAST));
        CHECK.due("GREATEST of balance " + g, greatest, () -> room.look(g, GREATEST));
        CHECK.due("SWING of balance " + g, swing, () -> room.look(g, SWING));
        CHECK.due("TREND of balance " + g, trend, () -> room.look(g, TREND));
    }

    static void isAsAtFirst(BalanceRoom room, int g) {
        has(room, g, 0, 0, 0, 0, 0, 0);
    }

    static BalanceRoom roomWith(int g, long... readings) {
        BalanceRoom room = new BalanceRoom();
        for (long v : readings) {
            room.read(g, v);
        }
        return room;
    }

    /** Every row below is number, due number, number, due number .. */
    static void ints(int code, int k, int... pairs) {
        for (int i = 0; i < pairs.length; i += 2) {
            alone(code, k, INTS, pairs[i], pairs[i + 1]);
        }
    }

    static void longs(int code, int k, long... pairs) {
        for (int i = 0; i < pairs.length; i += 2) {
            alone(code, k, LONGS, pairs[i], pairs[i + 1]);
        }
    }

    static void floats(int code, int k, float... pairs) {
        for (int i = 0; i < pairs.length; i += 2) {
            alone(code, k, FLOATS, f(pairs[i]), f(pairs[i + 1]));
        }
    }

    static void doubles(int code, int k, double... pairs) {
        for (int i = 0; i < pairs.length; i += 2) {
            alone(code, k, DOUBLES, d(pairs[i]), d(pairs[i + 1]));
        }
    }

    /** Of INTS and LONGS alike. */
    static void wholes(int code, int k, int... pairs) {
        for (int i = 0; i < pairs.length; i += 2) {
            alone(code, k, INTS, pairs[i], pairs[i + 1]);
            alone(code, k, LONGS, pairs[i], pairs[i + 1]);
        }
    }

    /** Of FLOATS and DOUBLES alike: each of these numbers is of both sorts. */
    static void points(int code, int k, float... pairs) {
        for (int i = 0; i < pairs.length; i += 2) {
            alone(code, k, FLOATS, f(pairs[i]), f(pairs[i + 1]));
            alone(code, k, DOUBLES, d(pairs[i]), d(pairs[i + 1]));
        }
    }

    /** On every balance of the sort, shown and kept. */
    static void alone(int code, int k, int sort, long v, long want) {
        for (int i = 0; i < 4; i++) {
            int g = sort * 4 + i;
            BalanceRoom room = roomWith(g, v);
            room.order(code, k);
            String call = "order(" + code + ", " + k + ") on balance " + g + " with " + v;
            comes(call, room, g, want);
        }
    }

    private static void comes(String call, BalanceRoom room, int g, long want) {
        CHECK.due(call + ", shown", want, () -> room.show(g));
        CHECK.due(call + ", kept", 2, () -> room.keep(g));
        CHECK.due(call + ", kept", want, () -> room.look(g, NOW));
    }

    /** Below, v is on the tape and w is the NOW of balance k. */
    static void wholesAgainst(int code, int v, int w, int want) {
        against(code, INTS, v, w, want);
        against(code, LONGS, v, w, want);
    }

    static void floatAgainst(int code, float v, float w, float want) {
        against(code, FLOATS, f(v), f(w), f(want));
    }

    static void doubleAgainst(int code, double v, double w, double want) {
        against(code, DOUBLES, d(v), d(w), d(want));
    }

    static void pointsAgainst(int code, float v, float w, float want) {
        floatAgainst(code, v, w, want);
        doubleAgainst(code, v, w, want);
    }

    /** On every balance of the sort, against its next one, which has had its least and its greatest READING before. */
    static void against(int code, int sort, long v, long w, long want) {
        for (int i = 0; i < 4; i++) {
            int g = sort * 4 + i;
            int k = sort * 4 + (i + 1) % 4;
            BalanceRoom room = roomWith(k, LOWEST[sort], HIGHEST[sort], w);
            room.read(g, v);
            room.order(code, k);
            comes("order(" + code + ", " + k + ") on balance " + g + " with " + v + " against " + w, room, g, want);
        }
    }
}
