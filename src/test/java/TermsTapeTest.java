/** Terms: which orders are refused, what the tape does, and the two sentences on calls that throw. */
public final class TermsTapeTest extends Sentences {
    public static void main(String[] args) {
        runAll(
            TermsTapeTest::meetRefused,
            TermsTapeTest::meetNotRefused,
            TermsTapeTest::refusedOfAnotherSort,
            TermsTapeTest::refusedWithoutReading,
            TermsTapeTest::othersAreNeverRefused,
            TermsTapeTest::numberOfBalanceK,
            TermsTapeTest::atMostTwelve,
            TermsTapeTest::noneAtFirst,
            TermsTapeTest::oneBehindTheOther,
            TermsTapeTest::withoutOrders,
            TermsTapeTest::throwingChangesNothing,
            TermsTapeTest::firstExceptionIsThrown);
    }

    private static void meetRefused() {
        CHECK.sentence("Terms, order 9 MEET",
            "Refused: of FLOATS, DOUBLES, if both are infinite with unlike signs");
        for (int g = 8; g < 16; g++) {
            for (int k = g / 4 * 4; k < g / 4 * 4 + 4; k++) {
                if (k != g) {
                    meetIsRefused(g, INF, k, -INF);
                    meetIsRefused(g, -INF, k, INF);
                }
            }
        }
        BalanceRoom room = roomWith(9, f(INF));
        room.order(TURN, 0);
        room.order(MEET, 9);
        CHECK.arithmetic("an infinite one, turned, against itself", () -> room.show(9));
        CHECK.due("failed()", 1, room::failed);
    }

    private static void meetIsRefused(int g, double v, int k, double w) {
        BalanceRoom room = roomWith(g, bitsOf(g / 4, v));
        room.read(k, bitsOf(k / 4, w));
        room.order(MEET, k);
        String of = " of balance " + g + " with " + v + " against " + k + " with " + w;
        CHECK.arithmetic("show" + of, () -> room.show(g));
        CHECK.due("failed()", 0, room::failed);
        CHECK.arithmetic("keep" + of, () -> room.keep(g));
        CHECK.due("failed()", 0, room::failed);
        CHECK.due("COUNT behind keep" + of, 1, () -> room.look(g, COUNT));
    }

    /** The nearest cases that are not refused: one sign, or one of them the greatest that is not infinite. */
    private static void meetNotRefused() {
        CHECK.sentence("Terms, order 9 MEET, next to what is refused",
            "if both are infinite with unlike signs");
        pointsAgainst(MEET, INF, INF, INF);
        pointsAgainst(MEET, -INF, -INF, -INF);
        floatAgainst(MEET, INF, -HUGE, INF);
        floatAgainst(MEET, -HUGE, INF, INF);
        floatAgainst(MEET, -INF, HUGE, -INF);
        floatAgainst(MEET, HUGE, -HUGE, 0f);
        doubleAgainst(MEET, INF, -DHUGE, INF);
        doubleAgainst(MEET, -DHUGE, INF, INF);
        doubleAgainst(MEET, -INF, DHUGE, -INF);
        doubleAgainst(MEET, DHUGE, -DHUGE, 0);
        // The bits of a FLOAT's or a DOUBLE's infinite ones are INTS and LONGS like others.
        against(MEET, INTS, f(INF), f(-INF), (f(INF) + f(-INF)) >> 1);
        against(MEET, LONGS, d(INF), d(-INF), (d(INF) + d(-INF)) >> 1);
    }

    private static void refusedOfAnotherSort() {
        CHECK.sentence("Terms, ORDERS",
            "Refused are 5, 6, 7, 9, 11, too, if balance k is of another sort than v");
        for (int code : ORDERS_AGAINST) {
            for (int g = 0; g < 16; g++) {
                for (int k = 0; k < 16; k++) {
                    if (g / 4 == k / 4) {
                        isTaken(g, code, k);
                    } else {
                        isRefused(g, code, k, true);
                    }
                }
            }
        }
    }

    private static void refusedWithoutReading() {
        CHECK.sentence("Terms, ORDERS", "or has no READING");
        for (int code : ORDERS_AGAINST) {
            for (int g = 0; g < 16; g++) {
                for (int k = 0; k < 16; k++) {
                    if (g != k) {
                        isRefused(g, code, k, false);
                    }
                }
            }
        }
    }

    private static void isTaken(int g, int code, int k) {
        BalanceRoom room = roomWith(g, bitsOf(g / 4, 5));
        room.read(k, bitsOf(k / 4, 5));
        room.order(code, k);
        String call = "order(" + code + ", " + k + ") on balance " + g;
        CHECK.due(call, bitsOf(g / 4, 5), () -> room.show(g));
        CHECK.due("failed() behind " + call, -1, room::failed);
    }

    private static void isRefused(int g, int code, int k, boolean hasReading) {
        BalanceRoom room = roomWith(g, bitsOf(g / 4, 5));
        room.read(k, bitsOf(k / 4, 5));
        if (!hasReading) {
            room.forget(k);
        }
        room.order(TURN, 0);
        room.order(code, k);
        String call = "order(" + code + ", " + k + ") on balance " + g;
        CHECK.state(call + ", shown", () -> room.show(g));
        CHECK.due("failed() behind " + call, 1, room::failed);
        CHECK.state(call + ", kept", () -> room.keep(g));
        CHECK.due("failed() behind " + call, 1, room::failed);
        CHECK.due("COUNT behind " + call, 1, () -> room.look(g, COUNT));
    }

    /** k is 0 here, or a step, and never a balance: that balance 0 is of another sort or without READING is nothing. */
    private static void othersAreNeverRefused() {
        CHECK.sentence("Terms, ORDERS, of 0 to 4, 8, 10, 12", "Refused are 5, 6, 7, 9, 11");
        for (int i = 4; i < 16; i++) {
            int g = i;
            int sort = g / 4;
            double[] numbers = sort < FLOATS ? new double[] {0, 5, -5} : new double[] {0, -0.0, 5, -5, INF, -INF};
            for (double v : numbers) {
                BalanceRoom room = roomWith(g, bitsOf(sort, v));
                for (int code : ORDERS_ALONE) {
                    room.order(code, 0);
                    CHECK.compare("show(" + g + ") of " + v + " with orders up to " + code, "a number",
                        Check.outcome(() -> room.show(g)).endsWith("Exception") ? "refused" : "a number");
                    CHECK.due("failed()", -1, room::failed);
                }
            }
        }
    }

    private static void numberOfBalanceK() {
        CHECK.sentence("Terms, ORDERS", "w is the NOW of balance k");
        BalanceRoom room = new BalanceRoom();
        room.order(MORE, 1);
        room.read(0, 5);
        room.read(1, 9);
        CHECK.due("read behind the order", 9, () -> room.show(0));
        room.read(1, 7);
        CHECK.due("neither its GREATEST nor what it was before", 7, () -> room.show(0));
        room.wipe();
        room.order(LESS, 1);
        room.read(1, 2);
        room.read(1, 4);
        CHECK.due("neither its LEAST nor what it was before", 4, () -> room.show(0));

        BalanceRoom own = roomWith(0, 5);
        own.order(TURN, 0);
        own.order(MORE, 0);
        CHECK.due("its own NOW, not what the tape has", 5, () -> own.show(0));
        own.wipe();
        own.order(TURN, 0);
        own.order(MEET, 0);
        CHECK.due("-5 and 5 meet at 0", 0, () -> own.show(0));
        CHECK.due("kept", 2, () -> own.keep(0));
        CHECK.due("now 0 and 0 meet", 0, () -> own.show(0));
    }

    private static void atMostTwelve() {
        CHECK.sentence("Terms, THE TAPE", "THE TAPE has at most 12 ORDERS");
        for (int c = SIZE; c <= PART; c++) {
            int code = c;
            BalanceRoom room = new BalanceRoom();
            for (int n = 1; n <= 12; n++) {
                CHECK.due("order " + n + " of code " + code, n, () -> room.order(code, 0));
            }
            CHECK.state("order 13 of code " + code, () -> room.order(code, 0));
            CHECK.due("wipe()", 12, room::wipe);
        }
    }

    private static void noneAtFirst() {
        CHECK.sentence("Terms, THE TAPE", "none at first");
        CHECK.due("wipe() of a new room", 0, () -> new BalanceRoom().wipe());
        CHECK.due("the first order", 1, () -> new BalanceRoom().order(TURN, 0));
        CHECK.due("show(12) of a new room", d(-2.5), () -> roomWith(12, d(-2.5)).show(12));
    }

    private static void oneBehindTheOther() {
        CHECK.sentence("Terms, THE TAPE",
            "the first order on that, each further one on what came of the one ahead");
        BalanceRoom room = roomWith(0, 5);
        room.read(1, -9);
        room.order(LESS, 1);
        CHECK.due("-9", -9, () -> room.show(0));
        room.order(SIZE, 0);
        CHECK.due("9", 9, () -> room.show(0));
        room.order(STEP, 13);
        CHECK.due("9 on steps of 8", 8, () -> room.show(0));
        room.order(MEET, 0);
        CHECK.due("8 and 5", 6, () -> room.show(0));
        room.wipe();
        room.order(SIZE, 0);
        room.order(LESS, 1);
        CHECK.due("in their order", -9, () -> room.show(0));

        BalanceRoom turning = roomWith(15, d(2.75));
        for (int n = 1; n <= 12; n++) {
            turning.order(TURN, 0);
            CHECK.due(n + " times turned", d(n % 2 == 0 ? 2.75 : -2.75), () -> turning.show(15));
        }
        turning.wipe();
        turning.order(PART, 0);
        turning.order(TURN, 0);
        turning.order(NEAR, 0);
        turning.order(SIGN, 0);
        CHECK.due("0.75, -0.75, -1, -1", d(-1), () -> turning.show(15));

        BalanceRoom infinite = roomWith(12, d(INF));
        infinite.read(13, d(-INF));
        infinite.order(TURN, 0);
        infinite.order(MEET, 13);
        CHECK.due("turned first, so both have one sign", d(-INF), () -> infinite.show(12));
    }

    private static void withoutOrders() {
        CHECK.sentence("Terms, THE TAPE", "without orders it is NOW");
        for (int i = 0; i < 16; i++) {
            int g = i;
            long now = bitsOf(g / 4, -3);
            BalanceRoom room = roomWith(g, bitsOf(g / 4, 8), now);
            CHECK.due("show(" + g + ")", now, () -> room.show(g));
            CHECK.due("keep(" + g + ")", 3, () -> room.keep(g));
            has(room, g, 3, now, now, bitsOf(g / 4, 8), bitsOf(g / 4, 11), 0);
        }
        CHECK.due("show(8) of -0.0", f(-0f), () -> roomWith(8, f(-0f)).show(8));
        CHECK.due("show(12) of -0.0", d(-0.0), () -> roomWith(12, d(-0.0)).show(12));
    }

    private interface RoomCall {
        long on(BalanceRoom room);
    }

    private static void throwingChangesNothing() {
        CHECK.sentence("Terms, at the end", "A call that throws changes nothing but what failed() tells.");
        for (int none : NO_BALANCES) {
            throwsAndChangesNothing("IllegalArgumentException", 1, room -> room.read(none, 1));
            throwsAndChangesNothing("IllegalArgumentException", -1, room -> room.show(none));
            throwsAndChangesNothing("IllegalArgumentException", -1, room -> room.keep(none));
            throwsAndChangesNothing("IllegalArgumentException", 1, room -> room.reach(none, 0));
            throwsAndChangesNothing("IllegalArgumentException", 1, room -> room.reach(0, none));
            throwsAndChangesNothing("IllegalArgumentException", 1, room -> room.look(none, 0));
            throwsAndChangesNothing("IllegalArgumentException", 1, room -> room.forget(none));
        }
        throwsAndChangesNothing("IllegalArgumentException", 1, room -> room.read(8, 0x7fc00000L));
        throwsAndChangesNothing("IllegalArgumentException", 1, room -> room.read(12, 0x7ff8000000000000L));
        throwsAndChangesNothing("IllegalArgumentException", 1, room -> room.read(15, 0x7ff8000000000000L));
        throwsAndChangesNothing("IllegalArgumentException", 1, room -> room.order(13, 0));
        throwsAndChangesNothing("IllegalArgumentException", 1, room -> room.order(MORE, 16));
        throwsAndChangesNothing("IllegalStateException", 1, room -> room.order(SIZE, 0));
        throwsAndChangesNothing("IllegalStateException", -1, room -> room.show(15));
        throwsAndChangesNothing("IllegalStateException", -1, room -> room.keep(15));
        throwsAndChangesNothing("IllegalStateException", 1, room -> room.show(0));
        throwsAndChangesNothing("IllegalStateException", 1, room -> room.keep(0));
        throwsAndChangesNothing("IllegalStateException", 1, room -> room.show(8));
        throwsAndChangesNothing("IllegalStateException", 1, room -> room.keep(8));
        throwsAndChangesNothing("ArithmeticException", 1, room -> room.show(12));
        throwsAndChangesNothing("ArithmeticException", 1, room -> room.keep(12));
        throwsAndChangesNothing("IllegalStateException", 1, room -> room.reach(0, 4));
        throwsAndChangesNothing("IllegalStateException", 1, room -> room.reach(12, 15));
        throwsAndChangesNothing("IllegalArgumentException", 1, room -> room.top(4, true));
        throwsAndChangesNothing("IllegalArgumentException", 1, room -> room.look(0, 6));
    }

    /** The tape is full and done on 14; its order 1 is refused on 12 for infinite ones, on 0 and 8 for their sorts. */
    private static BalanceRoom usedRoom() {
        BalanceRoom room = new BalanceRoom();
        for (int g = 0; g < 15; g++) {
            room.read(g, bitsOf(g / 4, 3 + g));
            room.read(g, bitsOf(g / 4, -2 * g));
        }
        room.read(12, d(-INF));
        room.read(13, d(-INF));
        room.read(14, d(INF));
        room.order(TURN, 0);
        room.order(MEET, 13);
        for (int n = 3; n <= 12; n++) {
            room.order(TURN, 0);
        }
        CHECK.state("show(4)", () -> room.show(4));
        return room;
    }

    private static void throwsAndChangesNothing(String exception, int failed, RoomCall call) {
        BalanceRoom room = usedRoom();
        String before = balances(room);
        CHECK.compare("the call", exception, Check.outcome(() -> call.on(room)));
        CHECK.due("failed() behind it", failed, room::failed);
        CHECK.compare("the balances behind it", before, balances(room));
        CHECK.due("what the tape makes behind it", d(-INF), () -> room.show(14));
        CHECK.due("how many orders the tape has behind it", 12, room::wipe);
    }

    private static String balances(BalanceRoom room) {
        StringBuilder all = new StringBuilder();
        for (int g = 0; g < 16; g++) {
            for (int what = COUNT; what <= TREND; what++) {
                all.append(room.look(g, what)).append(' ');
            }
        }
        return all.toString();
    }

    private static void firstExceptionIsThrown() {
        CHECK.sentence("Terms, at the end", "Of several exceptions that hold the one that stands first is thrown.");
        BalanceRoom full = usedRoom();
        CHECK.argument("a wrong code, and the tape is full", () -> full.order(13, 0));
        CHECK.argument("a wrong code, and the tape is full", () -> full.order(-1, 0));
        CHECK.argument("a wrong k, and the tape is full", () -> full.order(SIZE, 1));
        CHECK.argument("a wrong k, and the tape is full", () -> full.order(LIKE, 16));
        CHECK.argument("a wrong k, and the tape is full", () -> full.order(STEP, 21));
        CHECK.argument("no such balance, and an order that would be refused", () -> full.show(16));
        CHECK.argument("no such balance, and an order that would be refused", () -> full.keep(-1));
        CHECK.argument("no such balance, and no such what", () -> full.look(16, 6));
        CHECK.argument("no such balance, and not a number", () -> full.read(16, 0x7ff8000000000000L));
        CHECK.argument("the first is none, the second has no READING", () -> full.reach(16, 15));
        CHECK.argument("the second is none, the first has no READING", () -> full.reach(15, 16));
        CHECK.argument("both are none", () -> full.reach(-1, 16));
        CHECK.state("unlike sorts, and one has no READING", () -> full.reach(0, 15));

        BalanceRoom infinite = roomWith(8, f(INF));
        infinite.read(12, d(-INF));
        infinite.order(MEET, 12);
        CHECK.state("MEET of another sort, and infinite with unlike signs", () -> infinite.show(8));
        CHECK.state("MEET of another sort, and infinite with unlike signs", () -> infinite.keep(8));
        CHECK.state("no READING, and MEET of an infinite one", () -> infinite.show(13));
    }
}
