/** Promises 1, 2, 10 and 11: a new object, read, look, forget. */
public final class ReadingTest {
    private static final Check CHECK = new Check();

    public static void main(String[] args) {
        newObject();
        intReadings();
        longReadings();
        pointReadings();
        infiniteReadings();
        zeroReadings();
        notNumbers();
        wrongBalances();
        lookings();
        forgettings();
        CHECK.end();
    }

    private static void newObject() {
        BalanceRoom room = new BalanceRoom();
        for (int g = 0; g < 16; g++) {
            state("new", room, g, 0, 0, 0, 0, 0, 0);
        }
        CHECK.due("new failed()", -1, room::failed);
        CHECK.due("new wipe()", 0, room::wipe);
        for (int sort = 0; sort < 4; sort++) {
            int s = sort;
            CHECK.due("new top", -1, () -> room.top(s, true));
        }
    }

    private static void intReadings() {
        BalanceRoom room = new BalanceRoom();
        CHECK.due("read(0, 5)", 1, () -> room.read(0, 5));
        state("one int", room, 0, 1, 5, 5, 5, 0, 0);
        CHECK.due("read(0, -3)", 2, () -> room.read(0, -3));
        state("two ints", room, 0, 2, -3, -3, 5, 8, -1);
        CHECK.due("read(0, 1)", 3, () -> room.read(0, 1));
        state("three ints", room, 0, 3, 1, -3, 5, 8, 1);
        CHECK.due("read(0, 1) again", 4, () -> room.read(0, 1));
        state("no change", room, 0, 4, 1, -3, 5, 8, 0);
        state("its neighbour", room, 1, 0, 0, 0, 0, 0, 0);

        CHECK.due("lowest 32 bits", 1, () -> room.read(3, 0x7_8000_0000L));
        state("lowest 32 bits", room, 3, 1, Integer.MIN_VALUE, Integer.MIN_VALUE, Integer.MIN_VALUE, 0, 0);
        CHECK.due("read(3, 0)", 2, () -> room.read(3, 0));
        state("the least int's size is itself", room, 3, 2, 0, Integer.MIN_VALUE, 0, 0, -1);

        CHECK.due("read(2, MAX)", 1, () -> room.read(2, Integer.MAX_VALUE));
        CHECK.due("read(2, -2)", 2, () -> room.read(2, -2));
        state("D wraps", room, 2, 2, -2, -2, Integer.MAX_VALUE, Integer.MAX_VALUE, 1);
    }

    private static void longReadings() {
        BalanceRoom room = new BalanceRoom();
        long big = 0x7_8000_0000L;
        CHECK.due("read(4, big)", 1, () -> room.read(4, big));
        CHECK.due("read(4, 0)", 2, () -> room.read(4, 0));
        state("all 64 bits", room, 4, 2, 0, 0, big, big, -1);
        CHECK.due("read(7, MAX)", 1, () -> room.read(7, Long.MAX_VALUE));
        CHECK.due("read(7, -2)", 2, () -> room.read(7, -2));
        state("D wraps", room, 7, 2, -2, -2, Long.MAX_VALUE, Long.MAX_VALUE, 1);
        CHECK.due("read(6, MIN)", 1, () -> room.read(6, Long.MIN_VALUE));
        CHECK.due("read(6, 0)", 2, () -> room.read(6, 0));
        state("the least long's size is itself", room, 6, 2, 0, Long.MIN_VALUE, 0, 0, -1);
    }

    private static void pointReadings() {
        BalanceRoom room = new BalanceRoom();
        CHECK.due("read 1.5f", 1, () -> room.read(8, f(1.5f)));
        CHECK.due("read -2.25f", 2, () -> room.read(8, f(-2.25f)));
        state("floats", room, 8, 2, f(-2.25f), f(-2.25f), f(1.5f), f(3.75f), f(-1f));
        CHECK.due("read 0.1f over dirty high bits", 3, () -> room.read(8, 0x1234_5678_0000_0000L | f(0.1f)));
        state("floats", room, 8, 3, f(0.1f), f(-2.25f), f(1.5f), f(3.75f), f(1f));
        CHECK.due("read 0.1", 1, () -> room.read(15, d(0.1)));
        CHECK.due("read 0.3", 2, () -> room.read(15, d(0.3)));
        state("doubles", room, 15, 2, d(0.3), d(0.1), d(0.3), d(0.3 - 0.1), d(1));
        CHECK.due("read 0.3", 3, () -> room.read(15, d(0.3)));
        state("same", room, 15, 3, d(0.3), d(0.1), d(0.3), d(0.3 - 0.1), 0);
        CHECK.due("least double", 1, () -> room.read(14, 1));
        CHECK.due("minus least double", 2, () -> room.read(14, d(-Double.MIN_VALUE)));
        state("subnormal", room, 14, 2, d(-Double.MIN_VALUE), d(-Double.MIN_VALUE), 1, 2, d(-1));
        CHECK.due("greatest float", 1, () -> room.read(9, f(Float.MAX_VALUE)));
        CHECK.due("minus greatest float", 2, () -> room.read(9, f(-Float.MAX_VALUE)));
        state("D gets infinite", room, 9, 2, f(-Float.MAX_VALUE), f(-Float.MAX_VALUE), f(Float.MAX_VALUE),
            f(Float.POSITIVE_INFINITY), f(-1));
    }

    private static void infiniteReadings() {
        BalanceRoom room = new BalanceRoom();
        long plus = d(Double.POSITIVE_INFINITY);
        long minus = d(Double.NEGATIVE_INFINITY);
        CHECK.due("read +inf", 1, () -> room.read(12, plus));
        CHECK.due("read +inf", 2, () -> room.read(12, plus));
        state("one sign", room, 12, 2, plus, plus, plus, 0, 0);
        CHECK.due("read -inf", 3, () -> room.read(12, minus));
        state("unlike signs", room, 12, 3, minus, minus, plus, plus, d(-1));
        CHECK.due("read -inf", 4, () -> room.read(12, minus));
        state("both below 0", room, 12, 4, minus, minus, plus, plus, 0);
        CHECK.due("read 1", 5, () -> room.read(12, d(1)));
        state("back", room, 12, 5, d(1), minus, plus, plus, d(1));
    }

    private static void zeroReadings() {
        BalanceRoom room = new BalanceRoom();
        CHECK.due("read 0.0f", 1, () -> room.read(8, 0));
        CHECK.due("read -0.0f", 2, () -> room.read(8, f(-0f)));
        state("-0.0 less 0.0 is -0.0", room, 8, 2, f(-0f), f(-0f), 0, 0, f(-0f));
        CHECK.due("read -0.0f", 3, () -> room.read(8, f(-0f)));
        state("-0.0 less -0.0 is 0.0", room, 8, 3, f(-0f), f(-0f), 0, 0, 0);
        CHECK.due("read -0.0", 1, () -> room.read(12, d(-0.0)));
        CHECK.due("read 0.0", 2, () -> room.read(12, 0));
        state("0.0 is greater", room, 12, 2, 0, d(-0.0), 0, 0, 0);
    }

    private static void notNumbers() {
        BalanceRoom room = new BalanceRoom();
        room.read(8, f(2));
        room.read(12, d(2));
        long[] floats = {0x7fc00000L, 0x7f800001L, 0xff800001L, 0xffffffffL, -1L, 0x7fffffffL, 0x1_7fc0_0000L};
        for (long bits : floats) {
            CHECK.argument("read(8, " + bits + ")", () -> room.read(8, bits));
        }
        long[] doubles = {0x7ff8000000000000L, 0x7ff0000000000001L, 0xfff0000000000001L, -1L, Long.MAX_VALUE};
        for (long bits : doubles) {
            CHECK.argument("read(12, " + bits + ")", () -> room.read(12, bits));
        }
        state("unchanged", room, 8, 1, f(2), f(2), f(2), 0, 0);
        state("unchanged", room, 12, 1, d(2), d(2), d(2), 0, 0);
        CHECK.due("an int of all ones", 1, () -> room.read(0, -1));
        CHECK.due("a long of a NaN's bits", 1, () -> room.read(4, 0x7ff8000000000000L));
        CHECK.due("a float is not a NaN by its high bits", 1, () -> room.read(9, 0x7ff8000000000000L));
    }

    private static void wrongBalances() {
        BalanceRoom room = new BalanceRoom();
        int[] none = {-1, 16, Integer.MIN_VALUE, Integer.MAX_VALUE};
        for (int g : none) {
            CHECK.argument("read(" + g + ")", () -> room.read(g, 1));
            CHECK.argument("look(" + g + ")", () -> room.look(g, 0));
            CHECK.argument("forget(" + g + ")", () -> room.forget(g));
        }
        for (int g = 0; g < 16; g++) {
            state("still new", room, g, 0, 0, 0, 0, 0, 0);
        }
    }

    private static void lookings() {
        BalanceRoom room = new BalanceRoom();
        int[] none = {-1, 6, Integer.MIN_VALUE, Integer.MAX_VALUE};
        for (int what : none) {
            CHECK.argument("look(0, " + what + ")", () -> room.look(0, what));
        }
        room.read(11, f(-0f));
        CHECK.due("a float's bits are an int", Integer.MIN_VALUE, () -> room.look(11, 1));
    }

    private static void forgettings() {
        BalanceRoom room = new BalanceRoom();
        int[] some = {0, 5, 10, 15};
        for (int g : some) {
            CHECK.due("forget none", 0, () -> room.forget(g));
            room.read(g, 7);
            room.read(g, 3);
            room.read(g, 9);
        }
        room.read(1, 8);
        for (int g : some) {
            CHECK.due("forget three", 3, () -> room.forget(g));
            state("forgotten", room, g, 0, 0, 0, 0, 0, 0);
            CHECK.due("forget again", 0, () -> room.forget(g));
            CHECK.due("first again", 1, () -> room.read(g, 4));
            state("first again", room, g, 1, 4, 4, 4, 0, 0);
        }
        state("another one stays", room, 1, 1, 8, 8, 8, 0, 0);
    }

    private static void state(String what, BalanceRoom room, int g, long... want) {
        for (int i = 0; i < want.length; i++) {
            int w = i;
            CHECK.due(what + ": look(" + g + ", " + w + ")", want[w], () -> room.look(g, w));
        }
    }

    private static long f(float v) {
        return Check.bits(v);
    }

    private static long d(double v) {
        return Check.bits(v);
    }
}
