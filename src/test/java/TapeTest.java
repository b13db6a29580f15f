/** Promises 3 to 7: order, wipe, show, keep, failed, on what the tape does as a whole. */
public final class TapeTest {
    private static final Check CHECK = new Check();
    private static final long INFINITE = Check.bits(Double.POSITIVE_INFINITY);
    private static final long MINUS_INFINITE = Check.bits(Double.NEGATIVE_INFINITY);

    public static void main(String[] args) {
        operands();
        fullTape();
        wiping();
        showing();
        keeping();
        wrongBalances();
        refusedForBalance();
        refusedForInfinite();
        firstRefusalCounts();
        failedTellsOfTheLatest();
        CHECK.end();
    }

    private static void operands() {
        int[] highest = {0, 0, 0, 0, 0, 15, 15, 15, 20, 15, 0, 15, 0};
        for (int c = 0; c < highest.length; c++) {
            int code = c;
            int high = highest[c];
            BalanceRoom room = new BalanceRoom();
            CHECK.due("order(" + code + ", 0)", 1, () -> room.order(code, 0));
            CHECK.due("order(" + code + ", " + high + ")", 2, () -> room.order(code, high));
            int[] none = {-1, high + 1, Integer.MIN_VALUE, Integer.MAX_VALUE};
            for (int k : none) {
                CHECK.argument("order(" + code + ", " + k + ")", () -> room.order(code, k));
            }
            CHECK.due("only good ones came", 2, room::wipe);
        }
        BalanceRoom room = new BalanceRoom();
        int[] none = {-1, 13, Integer.MIN_VALUE, Integer.MAX_VALUE};
        for (int code : none) {
            CHECK.argument("order(" + code + ", 0)", () -> room.order(code, 0));
        }
        CHECK.due("no order came", 0, room::wipe);
    }

    private static void fullTape() {
        BalanceRoom room = new BalanceRoom();
        for (int i = 1; i <= 12; i++) {
            CHECK.due("order " + i, i, () -> room.order(10, 0));
        }
        CHECK.state("one too many", () -> room.order(10, 0));
        CHECK.argument("a wrong code comes first", () -> room.order(13, 0));
        CHECK.argument("a wrong k comes first", () -> room.order(10, 1));
        room.read(0, 5);
        CHECK.due("twelve turns", 5, () -> room.show(0));
        CHECK.due("wipe", 12, room::wipe);
        CHECK.due("room again", 1, () -> room.order(10, 0));
        CHECK.due("one turn", -5, () -> room.show(0));
    }

    private static void wiping() {
        BalanceRoom room = new BalanceRoom();
        room.read(0, 5);
        room.order(6, 1);
        room.order(10, 0);
        CHECK.state("refused", () -> room.show(0));
        CHECK.due("wipe", 2, room::wipe);
        CHECK.due("failed() stays", 0, room::failed);
        CHECK.due("wipe again", 0, room::wipe);
        CHECK.due("an empty tape shows NOW", 5, () -> room.show(0));
    }

    private static void showing() {
        BalanceRoom room = new BalanceRoom();
        room.read(0, 5);
        room.read(1, -9);
        room.order(7, 1);
        room.order(0, 0);
        room.order(8, 13);
        CHECK.due("least, size, step 8", 8, () -> room.show(0));
        CHECK.due("showing changes nothing", 5, () -> room.look(0, 1));
        CHECK.due("showing counts nothing", 1, () -> room.look(0, 0));
        CHECK.due("the same again", 8, () -> room.show(0));
        CHECK.due("failed", -1, room::failed);
        CHECK.due("another balance", 8, () -> room.show(1));
        room.wipe();
        room.order(0, 0);
        room.order(7, 1);
        CHECK.due("in their order", -9, () -> room.show(0));
    }

    private static void keeping() {
        BalanceRoom room = new BalanceRoom();
        room.read(0, 5);
        room.order(10, 0);
        CHECK.due("keep", 2, () -> room.keep(0));
        CHECK.due("NOW", -5, () -> room.look(0, 1));
        CHECK.due("LEAST", -5, () -> room.look(0, 2));
        CHECK.due("GREATEST", 5, () -> room.look(0, 3));
        CHECK.due("SWING", 10, () -> room.look(0, 4));
        CHECK.due("TREND", -1, () -> room.look(0, 5));
        CHECK.due("keep again", 3, () -> room.keep(0));
        CHECK.due("NOW", 5, () -> room.look(0, 1));
        CHECK.due("TREND", 1, () -> room.look(0, 5));
        room.wipe();
        CHECK.due("keep on an empty tape", 4, () -> room.keep(0));
        CHECK.due("NOW", 5, () -> room.look(0, 1));
        CHECK.due("TREND", 0, () -> room.look(0, 5));
        room.order(6, 0);
        room.order(9, 0);
        CHECK.due("set against itself", 5, () -> room.keep(0));
        CHECK.due("wraps never, NOW", 5, () -> room.look(0, 1));
    }

    private static void wrongBalances() {
        BalanceRoom room = new BalanceRoom();
        int[] none = {-1, 16, Integer.MIN_VALUE, Integer.MAX_VALUE};
        for (int g : none) {
            CHECK.argument("show(" + g + ")", () -> room.show(g));
            CHECK.argument("keep(" + g + ")", () -> room.keep(g));
        }
        for (int i = 0; i < 16; i++) {
            int g = i;
            CHECK.state("show(" + g + ") without reading", () -> room.show(g));
            CHECK.state("keep(" + g + ") without reading", () -> room.keep(g));
            CHECK.due("nothing was kept", 0, () -> room.look(g, 0));
        }
    }

    private static void refusedForBalance() {
        int[] codes = {5, 6, 7, 9, 11};
        for (int code : codes) {
            for (int balance = 0; balance < 16; balance++) {
                int k = balance;
                BalanceRoom room = new BalanceRoom();
                room.read(4, 5);
                room.order(code, k);
                if (k != 4) {
                    CHECK.state(code + " against " + k + " without reading", () -> room.show(4));
                    CHECK.due("failed", 0, room::failed);
                    CHECK.state(code + " against " + k + " without reading", () -> room.keep(4));
                }
                room.read(k, 5);
                if (k / 4 == 1) {
                    CHECK.due(code + " against " + k, 5, () -> room.show(4));
                    CHECK.due("failed", -1, room::failed);
                } else {
                    CHECK.state(code + " against another sort " + k, () -> room.show(4));
                    CHECK.due("failed", 0, room::failed);
                    CHECK.state(code + " against another sort " + k, () -> room.keep(4));
                    CHECK.due("nothing was kept", 1, () -> room.look(4, 0));
                }
            }
        }
    }

    private static void refusedForInfinite() {
        BalanceRoom room = new BalanceRoom();
        room.read(12, INFINITE);
        room.read(13, MINUS_INFINITE);
        room.read(14, INFINITE);
        room.read(8, 0xff800000L);
        room.read(9, 0x7f800000L);
        room.order(10, 0);
        room.order(10, 0);
        room.order(9, 13);
        CHECK.arithmetic("unlike signs", () -> room.show(12));
        CHECK.due("failed", 2, room::failed);
        CHECK.arithmetic("unlike signs", () -> room.keep(12));
        CHECK.due("nothing was kept", 1, () -> room.look(12, 0));
        CHECK.due("with itself", MINUS_INFINITE, () -> room.show(13));
        CHECK.state("another sort comes first", () -> room.show(9));
        room.wipe();
        room.order(9, 14);
        CHECK.due("one sign", INFINITE, () -> room.show(12));
        CHECK.arithmetic("unlike signs", () -> room.show(13));
        room.wipe();
        room.order(9, 8);
        CHECK.arithmetic("floats of unlike signs", () -> room.show(9));
        CHECK.due("failed", 0, room::failed);
        CHECK.state("a double against a float is of another sort", () -> room.show(12));
        room.wipe();
        room.order(10, 0);
        room.order(9, 8);
        CHECK.due("what came ahead counts", -8388608, () -> room.show(9));
    }

    private static void firstRefusalCounts() {
        BalanceRoom room = new BalanceRoom();
        room.read(12, INFINITE);
        room.read(13, MINUS_INFINITE);
        room.order(0, 0);
        room.order(9, 13);
        room.order(6, 0);
        CHECK.arithmetic("MEET stands first", () -> room.show(12));
        CHECK.due("failed", 1, room::failed);
        room.wipe();
        room.order(6, 0);
        room.order(9, 13);
        CHECK.state("MORE stands first", () -> room.show(12));
        CHECK.due("failed", 0, room::failed);
    }

    private static void failedTellsOfTheLatest() {
        BalanceRoom room = new BalanceRoom();
        room.read(0, 1);
        room.order(10, 0);
        room.order(6, 1);
        refuse(room);
        room.read(0, 3);
        room.look(0, 0);
        CHECK.argument("a wrong read", () -> room.read(16, 0));
        CHECK.argument("a wrong order", () -> room.order(13, 0));
        CHECK.due("other calls leave it", 1, room::failed);
        CHECK.argument("no such balance", () -> room.show(16));
        CHECK.due("no order was refused", -1, room::failed);
        refuse(room);
        CHECK.argument("no such balance", () -> room.keep(-1));
        CHECK.due("no order was refused", -1, room::failed);
        refuse(room);
        CHECK.state("no reading", () -> room.show(5));
        CHECK.due("no order was refused", -1, room::failed);
        refuse(room);
        CHECK.state("no reading", () -> room.keep(5));
        CHECK.due("no order was refused", -1, room::failed);
        CHECK.state("refused in keep", () -> room.keep(0));
        CHECK.due("failed", 1, room::failed);
        room.read(1, 1);
        CHECK.due("a good keep", 3, () -> room.keep(0));
        CHECK.due("no order was refused", -1, room::failed);
    }

    private static void refuse(BalanceRoom room) {
        CHECK.state("refused", () -> room.show(0));
        CHECK.due("failed", 1, room::failed);
    }
}
