/** Promises 8 and 9: reach and top. */
public final class CompareTest {
    private static final Check CHECK = new Check();
    private static final float INF = Float.POSITIVE_INFINITY;

    public static void main(String[] args) {
        reachOfWhole();
        reachOfPoint();
        reachRefused();
        tops();
        topOfZeros();
        topRefused();
        CHECK.end();
    }

    private static void reachOfWhole() {
        reach(0, 10, 7, 13);
        reach(0, -7, 10, 13);
        reach(0, 3, -10, 11);
        reach(0, 0, 0, 0);
        reach(0, Integer.MAX_VALUE, Integer.MAX_VALUE, Integer.MIN_VALUE + (Integer.MAX_VALUE >> 1) - 1);
        reach(0, Integer.MIN_VALUE, 5, 5 + Integer.MIN_VALUE / 2);
        reach(0, Integer.MIN_VALUE, Integer.MIN_VALUE, Integer.MIN_VALUE / 2 * 3);
        reach(4, 1L << 40, -3, (1L << 40) + 1);
        reach(4, Long.MIN_VALUE, 5, 5 + Long.MIN_VALUE / 2);
        reach(4, Long.MIN_VALUE, Long.MIN_VALUE, Long.MIN_VALUE / 2 * 3);
    }

    private static void reachOfPoint() {
        reach(8, f(3f), f(-4f), f(5.5f));
        reach(8, f(-0f), f(-0f), f(0f));
        reach(8, f(INF), f(-INF), f(INF));
        reach(8, f(1f), f(-INF), f(INF));
        reach(8, f(Float.MAX_VALUE), f(Float.MAX_VALUE), f(INF));
        reach(8, f(Float.MIN_VALUE), f(0f), f(Float.MIN_VALUE));
        reach(8, f(Float.MIN_VALUE), f(Float.MIN_VALUE), f(Float.MIN_VALUE));
        reach(8, f(16777216f), f(2f), f(16777216f));
        reach(8, f(16777218f), f(2f), f(16777220f));
        reach(12, d(3), d(-4), d(5.5));
        reach(12, d(0.1), d(0.3), d(0.3 + 0.1 * 0.5));
        reach(12, d(Double.NEGATIVE_INFINITY), d(-0.0), d(Double.POSITIVE_INFINITY));
    }

    private static void reach(int g, long v, long w, long want) {
        BalanceRoom room = new BalanceRoom();
        room.read(g, v);
        room.read(g + 3, w);
        CHECK.due("reach of " + v + ", " + w, want, () -> room.reach(g, g + 3));
        CHECK.due("reach of " + w + ", " + v, want, () -> room.reach(g + 3, g));
        if (v == w) {
            CHECK.due("reach with itself of " + v, want, () -> room.reach(g, g));
        }
        CHECK.due("reach changes nothing", v, () -> room.look(g, 1));
    }

    private static void reachRefused() {
        BalanceRoom room = new BalanceRoom();
        int[] none = {-1, 16, Integer.MIN_VALUE, Integer.MAX_VALUE};
        for (int g : none) {
            CHECK.argument("reach(" + g + ", 0)", () -> room.reach(g, 0));
            CHECK.argument("reach(0, " + g + ")", () -> room.reach(0, g));
            CHECK.argument("reach(15, " + g + ")", () -> room.reach(15, g));
        }
        CHECK.state("no readings", () -> room.reach(0, 1));
        CHECK.state("no reading, with itself", () -> room.reach(0, 0));
        room.read(0, 1);
        CHECK.state("no reading of the second", () -> room.reach(0, 1));
        CHECK.state("no reading of the first", () -> room.reach(1, 0));
        room.read(4, 1);
        room.read(8, 1);
        room.read(12, 1);
        for (int a = 0; a < 16; a += 4) {
            for (int b = 0; b < 16; b += 4) {
                int x = a;
                int y = b;
                if (a != b) {
                    CHECK.state("reach(" + a + ", " + b + ") of unlike sorts", () -> room.reach(x, y));
                }
            }
        }
        CHECK.due("failed() tells nothing of reach", -1, room::failed);
    }

    private static void tops() {
        for (int sort = 0; sort < 4; sort++) {
            int s = sort;
            int g = sort * 4;
            BalanceRoom room = new BalanceRoom();
            long[] values = s < 2 ? new long[] {-5, -9, 7, 7} : s == 2
                ? new long[] {f(-0.5f), f(-INF), f(2f), f(2f)}
                : new long[] {d(-0.5), d(Double.NEGATIVE_INFINITY), d(2), d(2)};
            CHECK.due("top without any", -1, () -> room.top(s, true));
            CHECK.due("top without any", -1, () -> room.top(s, false));
            room.read(g + 3, values[3]);
            CHECK.due("top of one", g + 3, () -> room.top(s, true));
            CHECK.due("least of one", g + 3, () -> room.top(s, false));
            room.read(g, values[0]);
            CHECK.due("0 of no reading does not count", g + 3, () -> room.top(s, true));
            CHECK.due("least of two", g, () -> room.top(s, false));
            room.read(g + 2, values[2]);
            CHECK.due("of several the lowest number", g + 2, () -> room.top(s, true));
            room.read(g + 1, values[1]);
            CHECK.due("least of four", g + 1, () -> room.top(s, false));
            room.read(g, values[1]);
            CHECK.due("of several the lowest number", g, () -> room.top(s, false));
            room.forget(g + 2);
            CHECK.due("a forgotten one does not count", g + 3, () -> room.top(s, true));
            room.forget(g + 3);
            CHECK.due("all alike", g, () -> room.top(s, true));
            CHECK.due("another sort has none", -1, () -> room.top((s + 1) % 4, true));
        }
    }

    private static void topOfZeros() {
        BalanceRoom room = new BalanceRoom();
        room.read(8, f(-0f));
        room.read(9, f(0f));
        room.read(13, d(0.0));
        room.read(14, d(-0.0));
        CHECK.due("greatest float", 9, () -> room.top(2, true));
        CHECK.due("least float", 8, () -> room.top(2, false));
        CHECK.due("greatest double", 13, () -> room.top(3, true));
        CHECK.due("least double", 14, () -> room.top(3, false));
    }

    private static void topRefused() {
        BalanceRoom room = new BalanceRoom();
        int[] none = {-1, 4, Integer.MIN_VALUE, Integer.MAX_VALUE, 1 << 30};
        for (int sort : none) {
            CHECK.argument("top(" + sort + ", true)", () -> room.top(sort, true));
            CHECK.argument("top(" + sort + ", false)", () -> room.top(sort, false));
        }
    }

    private static long f(float v) {
        return Check.bits(v);
    }

    private static long d(double v) {
        return Check.bits(v);
    }
}
