/** Promises 1, 2, 10 and 11: a new object, read, look, forget. One method a sentence. */
public final class PromisesBalanceTest extends Sentences {
    public static void main(String[] args) {
        runAll(
            PromisesBalanceTest::newObject,
            PromisesBalanceTest::lowestBits,
            PromisesBalanceTest::allBits,
            PromisesBalanceTest::countThen,
            PromisesBalanceTest::readOnNoBalance,
            PromisesBalanceTest::readNoNumber,
            PromisesBalanceTest::looks,
            PromisesBalanceTest::lookOnNoBalance,
            PromisesBalanceTest::lookAtNothing,
            PromisesBalanceTest::forgets,
            PromisesBalanceTest::forgottenHasNoReading,
            PromisesBalanceTest::countAsItWas,
            PromisesBalanceTest::forgetNoBalance);
    }

    private static void newObject() {
        CHECK.sentence("Promise 1", "All balances without a reading, an empty tape.");
        BalanceRoom used = new BalanceRoom();
        for (int g = 0; g < 16; g++) {
            used.read(g, 1);
        }
        used.order(MORE, 0);
        CHECK.state("show(15) of another room", () -> used.show(15));
        BalanceRoom room = new BalanceRoom();
        for (int i = 0; i < 16; i++) {
            int g = i;
            isAsAtFirst(room, g);
            CHECK.state("show(" + g + ")", () -> room.show(g));
            CHECK.state("reach(" + g + ", " + g + ")", () -> room.reach(g, g));
        }
        for (int s = 0; s < 4; s++) {
            int sort = s;
            CHECK.due("top(" + sort + ", true)", -1, () -> room.top(sort, true));
        }
        CHECK.due("wipe()", 0, room::wipe);
        CHECK.due("failed()", -1, room::failed);
    }

    private static void lowestBits() {
        CHECK.sentence("Promise 2", "of INTS, FLOATS the lowest 32 of these bits");
        for (int g = 0; g < 4; g++) {
            nowIs(g, 0x7_8000_0000L, INT_MIN);
            nowIs(g, 0x1_0000_0000L, 0);
            nowIs(g, 0xffffffffL, -1);
            nowIs(g, 0x80000000L, INT_MIN);
            nowIs(g, 0x7fffffffL, INT_MAX);
            nowIs(g, 0x7fffffff_00000005L, 5);
            nowIs(g, LONG_MIN, 0);
            nowIs(g, LONG_MAX, -1);
            nowIs(g, -1, -1);
        }
        for (int g = 8; g < 12; g++) {
            nowIs(g, 0x12345678_3f800000L, f(1f));
            nowIs(g, 0x00000000_bf800000L, f(-1f));
            nowIs(g, 0xffffffff_bf800000L, f(-1f));
            nowIs(g, 0xffffffff_3f800000L, f(1f));
            nowIs(g, 0x7ff80000_00000000L, f(0f));
            nowIs(g, 0x7ff80000_80000000L, f(-0f));
            nowIs(g, 0x7fc00000_ff800000L, f(-INF));
        }
    }

    private static void allBits() {
        CHECK.sentence("Promise 2", "of LONGS, DOUBLES all 64");
        for (int g = 4; g < 8; g++) {
            nowIs(g, 0x7_8000_0000L, 0x7_8000_0000L);
            nowIs(g, 0x80000000L, 0x80000000L);
            nowIs(g, LONG_MIN, LONG_MIN);
            nowIs(g, LONG_MAX, LONG_MAX);
        }
        for (int g = 12; g < 16; g++) {
            nowIs(g, 0x3ff00000_00000001L, d(0x1.0000000000001p0));
            nowIs(g, 0x00000000_7fc00000L, 0x7fc00000L);
            nowIs(g, 0x80000000_00000000L, d(-0.0));
            nowIs(g, 0xfff00000_00000000L, d(-INF));
        }
    }

    private static void nowIs(int g, long bits, long want) {
        CHECK.due("NOW of balance " + g + " behind " + bits, want, () -> roomWith(g, bits).look(g, NOW));
    }

    private static void countThen() {
        CHECK.sentence("Promise 2", "its COUNT then");
        BalanceRoom room = new BalanceRoom();
        for (int n = 1; n <= 5; n++) {
            for (int i = 0; i < 16; i++) {
                int g = i;
                CHECK.due("reading " + n + " of balance " + g, n, () -> room.read(g, 3));
            }
        }
        room.forget(7);
        CHECK.due("the first reading behind forget", 1, () -> room.read(7, 3));
    }

    private static void readOnNoBalance() {
        CHECK.sentence("Promise 2", "IllegalArgumentException: there is no such balance");
        BalanceRoom room = new BalanceRoom();
        for (int g : NO_BALANCES) {
            CHECK.argument("read(" + g + ", 0)", () -> room.read(g, 0));
            CHECK.argument("read(" + g + ", -1)", () -> room.read(g, -1));
        }
        CHECK.due("read(0, 0)", 1, () -> room.read(0, 0));
        CHECK.due("read(15, 0)", 1, () -> room.read(15, 0));
    }

    /** The nearest bits on each side: the infinite ones, and one more than these. */
    private static void readNoNumber() {
        CHECK.sentence("Promise 2", "or it is not a number");
        for (int i = 0; i < 4; i++) {
            numberAndNext(8 + i, 0x7f800000L);
            numberAndNext(8 + i, 0xff800000L);
            numberAndNext(8 + i, 0x55555555_7f800000L);
            numberAndNext(12 + i, 0x7ff00000_00000000L);
            numberAndNext(12 + i, 0xfff00000_00000000L);
        }
        for (int i = 0; i < 4; i++) {
            int g = i;
            CHECK.argument("read of all 32 ones", () -> new BalanceRoom().read(8 + g, 0xffffffffL));
            CHECK.argument("read of 31 ones", () -> new BalanceRoom().read(8 + g, 0x7fffffffL));
            CHECK.argument("read of all 64 ones", () -> new BalanceRoom().read(12 + g, -1L));
            CHECK.argument("read of 63 ones", () -> new BalanceRoom().read(12 + g, LONG_MAX));
            CHECK.due("an INT of such bits", 1, () -> new BalanceRoom().read(g, 0x7fc00000L));
            CHECK.due("a LONG of such bits", 1, () -> new BalanceRoom().read(4 + g, 0x7ff80000_00000000L));
            CHECK.due("a FLOAT with such bits above", 1, () -> new BalanceRoom().read(8 + g, 0x7ff80000_00000000L));
            CHECK.due("a DOUBLE with such bits below", 1, () -> new BalanceRoom().read(12 + g, 0x7fc00000L));
        }
    }

    private static void numberAndNext(int g, long infinite) {
        BalanceRoom room = new BalanceRoom();
        CHECK.argument("read(" + g + ", " + (infinite + 1) + ")", () -> room.read(g, infinite + 1));
        CHECK.due("read(" + g + ", " + infinite + ")", 1, () -> room.read(g, infinite));
        CHECK.due("read(" + g + ", " + (infinite - 1) + ")", 2, () -> room.read(g, infinite - 1));
    }

    private static void looks() {
        CHECK.sentence("Promise 10",
            "Of balance g: 0 its COUNT; the bits of: 1 NOW, 2 LEAST, 3 GREATEST, 4 SWING, 5 TREND.");
        BalanceRoom room = new BalanceRoom();
        for (int g = 0; g < 16; g++) {
            int sort = g / 4;
            room.read(g, bitsOf(sort, 10 + g));
            room.read(g, bitsOf(sort, -20 - g));
            room.read(g, bitsOf(sort, -3));
            room.read(g, bitsOf(sort, -5));
        }
        for (int g = 0; g < 16; g++) {
            int sort = g / 4;
            has(room, g, 4, bitsOf(sort, -5), bitsOf(sort, -20 - g), bitsOf(sort, 10 + g), bitsOf(sort, 30 + 2 * g),
                bitsOf(sort, -1));
        }
    }

    private static void lookOnNoBalance() {
        CHECK.sentence("Promise 10", "IllegalArgumentException: there is no such balance");
        BalanceRoom room = new BalanceRoom();
        for (int g : NO_BALANCES) {
            for (int w = COUNT; w <= TREND; w++) {
                int what = w;
                CHECK.argument("look(" + g + ", " + what + ")", () -> room.look(g, what));
            }
        }
        CHECK.due("look(0, 0)", 0, () -> room.look(0, 0));
        CHECK.due("look(15, 0)", 0, () -> room.look(15, 0));
    }

    private static void lookAtNothing() {
        CHECK.sentence("Promise 10", "there is no such balance or what");
        BalanceRoom room = new BalanceRoom();
        int[] none = {-1, 6, INT_MIN, INT_MAX};
        for (int i = 0; i < 16; i++) {
            int g = i;
            for (int what : none) {
                CHECK.argument("look(" + g + ", " + what + ")", () -> room.look(g, what));
            }
            CHECK.due("look(" + g + ", 5)", 0, () -> room.look(g, 5));
        }
    }

    private static void forgets() {
        CHECK.sentence("Promise 11", "Balance g is as at first");
        for (int g = 0; g < 16; g++) {
            int sort = g / 4;
            BalanceRoom room = new BalanceRoom();
            for (int k = 0; k < 16; k++) {
                room.read(k, bitsOf(k / 4, 4));
                room.read(k, bitsOf(k / 4, -6));
            }
            room.order(TURN, 0);
            room.forget(g);
            for (int k = 0; k < 16; k++) {
                if (k == g) {
                    isAsAtFirst(room, k);
                } else {
                    long last = bitsOf(k / 4, -6);
                    has(room, k, 2, last, last, bitsOf(k / 4, 4), bitsOf(k / 4, 10), bitsOf(k / 4, -1));
                }
            }
            room.read(g, bitsOf(sort, 9));
            has(room, g, 1, bitsOf(sort, 9), bitsOf(sort, 9), bitsOf(sort, 9), 0, 0);
            CHECK.due("the tape stays", 1, room::wipe);
        }
    }

    private static void forgottenHasNoReading() {
        CHECK.sentence("Promise 11, with 5, 8, 9", "Balance g is as at first");
        for (int i = 0; i < 16; i++) {
            int g = i;
            int k = g / 4 * 4 + (g + 1) % 4;
            BalanceRoom room = roomWith(g, 1);
            room.read(k, 1);
            room.forget(g);
            CHECK.state("show(" + g + ")", () -> room.show(g));
            CHECK.state("keep(" + g + ")", () -> room.keep(g));
            CHECK.state("reach(" + g + ", " + k + ")", () -> room.reach(g, k));
            CHECK.due("top(" + g / 4 + ", false)", k, () -> room.top(g / 4, false));
            room.order(LESS, g);
            CHECK.state("LESS on balance " + k, () -> room.show(k));
            CHECK.due("failed()", 0, room::failed);
            room.forget(k);
            CHECK.due("failed() behind forget", 0, room::failed);
            CHECK.due("top(" + g / 4 + ", true)", -1, () -> room.top(g / 4, true));
        }
    }

    private static void countAsItWas() {
        CHECK.sentence("Promise 11", "its COUNT as it was");
        for (int i = 0; i < 16; i++) {
            int g = i;
            BalanceRoom room = new BalanceRoom();
            CHECK.due("forget(" + g + ") without reading", 0, () -> room.forget(g));
            room.read(g, 1);
            CHECK.due("forget(" + g + ") with one", 1, () -> room.forget(g));
            CHECK.due("forget(" + g + ") again", 0, () -> room.forget(g));
            room.read(g, 1);
            room.read(g, 1);
            room.keep(g);
            CHECK.due("forget(" + g + ") with three", 3, () -> room.forget(g));
        }
    }

    private static void forgetNoBalance() {
        CHECK.sentence("Promise 11", "IllegalArgumentException: there is no such balance");
        BalanceRoom room = new BalanceRoom();
        for (int g : NO_BALANCES) {
            CHECK.argument("forget(" + g + ")", () -> room.forget(g));
        }
        CHECK.due("forget(0)", 0, () -> room.forget(0));
        CHECK.due("forget(15)", 0, () -> room.forget(15));
    }
}
