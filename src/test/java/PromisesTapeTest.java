/** Promises 3 to 7: order, wipe, show, keep, failed. One method a sentence. */
public final class PromisesTapeTest extends Sentences {
    private static final int[] HIGHEST_K = {0, 0, 0, 0, 0, 15, 15, 15, 20, 15, 0, 15, 0};

    public static void main(String[] args) {
        runAll(
            PromisesTapeTest::orderComesToTheEnd,
            PromisesTapeTest::noSuchCode,
            PromisesTapeTest::noSuchK,
            PromisesTapeTest::thereAreTwelve,
            PromisesTapeTest::wipes,
            PromisesTapeTest::shows,
            PromisesTapeTest::showOfNoBalance,
            PromisesTapeTest::showWithoutReading,
            PromisesTapeTest::showWithRefusedOrder,
            PromisesTapeTest::showWithRefusedMeet,
            PromisesTapeTest::firstRefusedOrderCounts,
            PromisesTapeTest::keepsLikewise,
            PromisesTapeTest::keepsAReading,
            PromisesTapeTest::keepCounts,
            PromisesTapeTest::numberOfTheRefused,
            PromisesTapeTest::latestShowOrKeep,
            PromisesTapeTest::noneIfNoneWas,
            PromisesTapeTest::noneBeforeAny);
    }

    private static void orderComesToTheEnd() {
        CHECK.sentence("Promise 3", "An order comes to the tape's end: how many there are.");
        BalanceRoom room = roomWith(0, -7);
        CHECK.due("the first order", 1, () -> room.order(SIZE, 0));
        CHECK.due("7", 7, () -> room.show(0));
        CHECK.due("the second order", 2, () -> room.order(TURN, 0));
        CHECK.due("-7", -7, () -> room.show(0));
        CHECK.due("the third order", 3, () -> room.order(STEP, 11));
        CHECK.due("-8", -8, () -> room.show(0));
        CHECK.due("the same order again", 4, () -> room.order(STEP, 11));
        CHECK.argument("a wrong one", () -> room.order(STEP, 21));
        CHECK.due("it did not count", 5, () -> room.order(SIZE, 0));
        CHECK.due("8", 8, () -> room.show(0));
    }

    private static void noSuchCode() {
        CHECK.sentence("Promise 3", "IllegalArgumentException: the code is none of 0 .. 12");
        int[] none = {-1, 13, INT_MIN, INT_MAX};
        BalanceRoom room = new BalanceRoom();
        for (int code : none) {
            CHECK.argument("order(" + code + ", 0)", () -> room.order(code, 0));
        }
        CHECK.due("order(0, 0)", 1, () -> room.order(0, 0));
        CHECK.due("order(12, 0)", 2, () -> room.order(12, 0));
        CHECK.due("wipe()", 2, room::wipe);
    }

    private static void noSuchK() {
        CHECK.sentence("Promise 3", "or k is not 0 .. 15 (5, 6, 7, 9, 11), 0 .. 20 (8), 0 (all others)");
        for (int c = SIZE; c <= PART; c++) {
            int code = c;
            int highest = HIGHEST_K[code];
            int[] none = {-1, highest + 1, INT_MIN, INT_MAX};
            BalanceRoom room = new BalanceRoom();
            for (int k : none) {
                CHECK.argument("order(" + code + ", " + k + ")", () -> room.order(code, k));
            }
            CHECK.due("order(" + code + ", 0)", 1, () -> room.order(code, 0));
            CHECK.due("order(" + code + ", " + highest + ")", 2, () -> room.order(code, highest));
            CHECK.due("wipe()", 2, room::wipe);
        }
    }

    private static void thereAreTwelve() {
        CHECK.sentence("Promise 3", "IllegalStateException: there are 12");
        BalanceRoom room = roomWith(0, 5);
        for (int i = 1; i <= 12; i++) {
            int n = i;
            CHECK.due("order " + n, n, () -> room.order(TURN, 0));
        }
        CHECK.state("order 13", () -> room.order(TURN, 0));
        CHECK.state("order 13", () -> room.order(MORE, 15));
        CHECK.due("twelve turns", 5, () -> room.show(0));
        CHECK.due("wipe()", 12, room::wipe);
        CHECK.due("an order behind wipe()", 1, () -> room.order(TURN, 0));
    }

    private static void wipes() {
        CHECK.sentence("Promise 4", "The tape is empty: how many orders it had.");
        for (int had = 0; had <= 12; had++) {
            BalanceRoom room = roomWith(0, 5);
            for (int n = 1; n <= had; n++) {
                room.order(n == 1 ? TURN : SIGN, 0);
            }
            CHECK.due("wipe()", had, room::wipe);
            CHECK.due("show(0) without orders", 5, () -> room.show(0));
            CHECK.due("wipe() again", 0, room::wipe);
            CHECK.due("a new order", 1, () -> room.order(STEP, 12));
            CHECK.due("the new order alone", 4, () -> room.show(0));
        }
    }

    private static void shows() {
        CHECK.sentence("Promise 5", "The tape is DONE on balance g: the bits of what comes.");
        BalanceRoom room = new BalanceRoom();
        for (int g = 0; g < 16; g++) {
            room.read(g, bitsOf(g / 4, -5 - g));
        }
        room.order(TURN, 0);
        for (int i = 0; i < 16; i++) {
            int g = i;
            int sort = g / 4;
            long now = bitsOf(sort, -5 - g);
            CHECK.due("show(" + g + ")", bitsOf(sort, 5 + g), () -> room.show(g));
            CHECK.due("show(" + g + ") again", bitsOf(sort, 5 + g), () -> room.show(g));
            has(room, g, 1, now, now, now, 0, 0);
        }
        CHECK.due("the orders stay", 1, room::wipe);
    }

    private static void showOfNoBalance() {
        CHECK.sentence("Promise 5", "IllegalArgumentException: there is no such balance");
        BalanceRoom room = roomWith(0, 1);
        room.read(15, 1);
        for (int g : NO_BALANCES) {
            CHECK.argument("show(" + g + ")", () -> room.show(g));
        }
        CHECK.due("show(0)", 1, () -> room.show(0));
        CHECK.due("show(15)", 1, () -> room.show(15));
    }

    private static void showWithoutReading() {
        CHECK.sentence("Promise 5", "IllegalStateException: it has no READING");
        for (int i = 0; i < 16; i++) {
            int g = i;
            BalanceRoom room = new BalanceRoom();
            CHECK.state("show(" + g + ")", () -> room.show(g));
            room.order(SIZE, 0);
            CHECK.state("show(" + g + ") with an order", () -> room.show(g));
            room.read(g, 0);
            CHECK.due("show(" + g + ") of one READING", 0, () -> room.show(g));
        }
    }

    private static void showWithRefusedOrder() {
        CHECK.sentence("Promise 5", "or an order is refused but for MEET's infinite ones");
        for (int code : ORDERS_AGAINST) {
            BalanceRoom room = roomWith(12, d(INF));
            room.read(8, f(-INF));
            room.order(code, 13);
            CHECK.state("order " + code + " against no READING", () -> room.show(12));
            room.wipe();
            room.order(code, 8);
            CHECK.state("order " + code + " against another sort", () -> room.show(12));
        }
    }

    private static void showWithRefusedMeet() {
        CHECK.sentence("Promise 5", "ArithmeticException: MEET is refused for these");
        BalanceRoom room = roomWith(12, d(INF));
        room.read(13, d(-INF));
        room.read(8, f(INF));
        room.read(9, f(-INF));
        room.order(MEET, 13);
        CHECK.arithmetic("show(12)", () -> room.show(12));
        CHECK.due("show(13)", d(-INF), () -> room.show(13));
        CHECK.state("show(8)", () -> room.show(8));
        room.wipe();
        room.order(MEET, 8);
        CHECK.arithmetic("show(9)", () -> room.show(9));
        CHECK.due("show(8)", f(INF), () -> room.show(8));
        CHECK.state("show(13)", () -> room.show(13));
    }

    private static void firstRefusedOrderCounts() {
        CHECK.sentence("Promise 5", "the first order that is refused counts");
        refusedBy("ArithmeticException", 1, SIZE, 0, MEET, 13, MORE, 0);
        refusedBy("ArithmeticException", 0, MEET, 13, MEET, 0);
        refusedBy("ArithmeticException", 0, MEET, 13, HELD, 15);
        refusedBy("IllegalStateException", 0, MORE, 0, MEET, 13);
        refusedBy("IllegalStateException", 0, MEET, 0, MEET, 13);
        refusedBy("IllegalStateException", 2, SIZE, 0, MEET, 14, LIKE, 15, MEET, 13);
        refusedBy("IllegalStateException", 1, TURN, 0, LESS, 8, LESS, 0);
        // Turned, both have one sign, so that the MEET is done, and the next one is the first that is refused.
        refusedBy("IllegalStateException", 2, TURN, 0, MEET, 13, MORE, 0);
    }

    /** Balance 12 has an infinite one, 13 the other one, 14 the same; 0 is of another sort, 15 has no READING. */
    private static void refusedBy(String exception, int number, int... orders) {
        BalanceRoom room = roomWith(12, d(INF));
        room.read(13, d(-INF));
        room.read(14, d(INF));
        room.read(0, 1);
        for (int i = 0; i < orders.length; i += 2) {
            room.order(orders[i], orders[i + 1]);
        }
        CHECK.compare("show(12)", exception, Check.outcome(() -> room.show(12)));
        CHECK.due("failed()", number, room::failed);
        CHECK.compare("keep(12)", exception, Check.outcome(() -> room.keep(12)));
        CHECK.due("failed()", number, room::failed);
    }

    private static void keepsLikewise() {
        CHECK.sentence("Promise 6", "Likewise");
        for (int g : NO_BALANCES) {
            CHECK.argument("keep(" + g + ")", () -> new BalanceRoom().keep(g));
        }
        for (int i = 0; i < 16; i++) {
            int g = i;
            BalanceRoom room = new BalanceRoom();
            CHECK.state("keep(" + g + ") without READING", () -> room.keep(g));
            isAsAtFirst(room, g);
        }
        BalanceRoom room = roomWith(12, d(INF));
        room.read(13, d(-INF));
        room.order(MEET, 13);
        CHECK.arithmetic("keep(12)", () -> room.keep(12));
        has(room, 12, 1, d(INF), d(INF), d(INF), 0, 0);
        CHECK.due("keep(13)", 2, () -> room.keep(13));
        room.read(0, 1);
        CHECK.state("keep(0)", () -> room.keep(0));
        has(room, 0, 1, 1, 1, 1, 0, 0);
        CHECK.due("the orders stay", 1, room::wipe);
    }

    private static void keepsAReading() {
        CHECK.sentence("Promise 6", "what comes is a READING of balance g");
        for (int g = 0; g < 16; g++) {
            int sort = g / 4;
            BalanceRoom room = roomWith(g, bitsOf(sort, 5));
            room.order(TURN, 0);
            room.keep(g);
            has(room, g, 2, bitsOf(sort, -5), bitsOf(sort, -5), bitsOf(sort, 5), bitsOf(sort, 10), bitsOf(sort, -1));
            room.keep(g);
            has(room, g, 3, bitsOf(sort, 5), bitsOf(sort, -5), bitsOf(sort, 5), bitsOf(sort, 10), bitsOf(sort, 1));
            room.wipe();
            room.keep(g);
            has(room, g, 4, bitsOf(sort, 5), bitsOf(sort, -5), bitsOf(sort, 5), bitsOf(sort, 10), 0);
        }
        BalanceRoom pair = roomWith(4, 5);
        pair.read(5, 20);
        pair.order(MORE, 5);
        pair.keep(4);
        has(pair, 4, 2, 20, 5, 20, 15, 1);
        has(pair, 5, 1, 20, 20, 20, 0, 0);
        BalanceRoom wrapping = roomWith(0, INT_MIN);
        wrapping.order(SIZE, 0);
        wrapping.keep(0);
        has(wrapping, 0, 2, INT_MIN, INT_MIN, INT_MIN, 0, 0);
        BalanceRoom growing = roomWith(8, f(HUGE));
        growing.order(STEP, 0);
        growing.keep(8);
        has(growing, 8, 2, f(INF), f(HUGE), f(INF), f(INF), f(1f));
        growing.keep(8);
        has(growing, 8, 3, f(INF), f(HUGE), f(INF), f(INF), f(0f));
    }

    private static void keepCounts() {
        CHECK.sentence("Promise 6", "its COUNT then");
        for (int i = 0; i < 16; i++) {
            int g = i;
            BalanceRoom room = roomWith(g, 1);
            CHECK.due("keep(" + g + ")", 2, () -> room.keep(g));
            CHECK.due("keep(" + g + ")", 3, () -> room.keep(g));
            CHECK.due("read(" + g + ", 1)", 4, () -> room.read(g, 1));
            CHECK.due("keep(" + g + ")", 5, () -> room.keep(g));
        }
    }

    private static void numberOfTheRefused() {
        CHECK.sentence("Promise 7", "The number (from 0 on) of the order that was refused");
        for (int before = 0; before <= 11; before++) {
            BalanceRoom room = roomWith(12, d(INF));
            room.read(13, d(-INF));
            for (int n = 0; n < before; n++) {
                room.order(SIZE, 0);
            }
            room.order(MEET, 13);
            CHECK.arithmetic("show(12)", () -> room.show(12));
            CHECK.due("failed()", before, room::failed);
            CHECK.arithmetic("keep(12)", () -> room.keep(12));
            CHECK.due("failed()", before, room::failed);
            room.forget(13);
            CHECK.state("show(12)", () -> room.show(12));
            CHECK.due("failed()", before, room::failed);
        }
    }

    private static void latestShowOrKeep() {
        CHECK.sentence("Promise 7", "in the latest show() or keep()");
        BalanceRoom room = roomWith(0, 3);
        room.order(MORE, 1);
        CHECK.state("show(0)", () -> room.show(0));
        CHECK.due("failed()", 0, room::failed);
        CHECK.due("failed() again", 0, room::failed);
        room.wipe();
        room.order(TURN, 0);
        room.order(MORE, 1);
        CHECK.state("keep(0)", () -> room.keep(0));
        CHECK.due("failed()", 1, room::failed);
        room.read(0, 4);
        room.read(2, 4);
        room.look(0, 0);
        room.top(0, true);
        room.reach(0, 2);
        room.forget(2);
        room.wipe();
        room.order(SIZE, 0);
        CHECK.argument("read(16, 0)", () -> room.read(16, 0));
        CHECK.argument("order(13, 0)", () -> room.order(13, 0));
        CHECK.argument("look(0, 6)", () -> room.look(0, 6));
        CHECK.argument("top(4, true)", () -> room.top(4, true));
        CHECK.argument("forget(16)", () -> room.forget(16));
        CHECK.argument("reach(0, 16)", () -> room.reach(0, 16));
        CHECK.state("reach(0, 1)", () -> room.reach(0, 1));
        CHECK.due("failed() behind other calls", 1, room::failed);
        CHECK.due("show(0)", 4, () -> room.show(0));
        CHECK.due("failed()", -1, room::failed);
    }

    private static void noneIfNoneWas() {
        CHECK.sentence("Promise 7", "NONE, if none was");
        BalanceRoom room = roomWith(0, 3);
        room.read(4, 3);
        room.order(MORE, 0);
        refuse(room);
        CHECK.due("show(0)", 3, () -> room.show(0));
        CHECK.due("failed()", BalanceRoom.NONE, room::failed);
        refuse(room);
        CHECK.due("keep(0)", 2, () -> room.keep(0));
        CHECK.due("failed()", BalanceRoom.NONE, room::failed);
        // These throw ahead of any order, so none was refused in them.
        refuse(room);
        CHECK.argument("show(16)", () -> room.show(16));
        CHECK.due("failed()", BalanceRoom.NONE, room::failed);
        refuse(room);
        CHECK.argument("keep(-1)", () -> room.keep(-1));
        CHECK.due("failed()", BalanceRoom.NONE, room::failed);
        refuse(room);
        CHECK.state("show(8)", () -> room.show(8));
        CHECK.due("failed()", BalanceRoom.NONE, room::failed);
        refuse(room);
        CHECK.state("keep(8)", () -> room.keep(8));
        CHECK.due("failed()", BalanceRoom.NONE, room::failed);
        refuse(room);
        room.wipe();
        CHECK.due("show(4) without orders", 3, () -> room.show(4));
        CHECK.due("failed()", BalanceRoom.NONE, room::failed);
    }

    private static void refuse(BalanceRoom room) {
        CHECK.state("show(4)", () -> room.show(4));
        CHECK.due("failed()", 0, room::failed);
    }

    private static void noneBeforeAny() {
        CHECK.sentence("Promise 7", "or before any");
        BalanceRoom room = new BalanceRoom();
        CHECK.due("NONE", -1, () -> BalanceRoom.NONE);
        CHECK.due("failed() of a new room", -1, room::failed);
        room.read(0, 1);
        room.order(MORE, 4);
        CHECK.state("reach(0, 4)", () -> room.reach(0, 4));
        CHECK.due("failed() before any show() or keep()", -1, room::failed);
    }
}
