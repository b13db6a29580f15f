import java.util.Random;

/** Adding, halving and cutting on very many pairs of numbers that lie near one another, against Java's own floats. */
public final class NumbersTest {
    private static final int PAIRS = 400000;
    private static final Check CHECK = new Check();

    public static void main(String[] args) {
        Random random = new Random(7);
        for (int i = 0; i < PAIRS && !CHECK.hasWrong(); i++) {
            floats(random);
            doubles(random);
        }
        CHECK.end();
    }

    private static void floats(Random random) {
        int a = random.nextInt() & 0xff7fffff;
        int apart = (random.nextInt(60) - 30) << 23;
        int b = random.nextBoolean() ? random.nextInt() & 0xff7fffff : (a ^ random.nextInt(1 << random.nextInt(24)))
            + apart;
        float v = Float.intBitsToFloat(a);
        float w = Float.intBitsToFloat(b);
        if (Float.isNaN(w)) {
            return;
        }
        float small = Float.intBitsToFloat((a & 0x807fffff) | ((110 + random.nextInt(50)) << 23));
        sums(8, Check.bits(v), Check.bits(w), Check.bits(Math.abs(w - v)), Check.bits((v + w) * 0.5f));
        cuts(8, Check.bits(small), Check.bits((float) Math.floor(small)), Check.bits((float) Math.ceil(small)),
            Check.bits((float) Math.rint(small)));
    }

    private static void doubles(Random random) {
        long a = random.nextLong() & 0xffefffffffffffffL;
        long apart = (random.nextInt(130) - 65L) << 52;
        long b = random.nextBoolean() ? random.nextLong() & 0xffefffffffffffffL
            : (a ^ (random.nextLong() >>> (12 + random.nextInt(52)))) + apart;
        double v = Double.longBitsToDouble(a);
        double w = Double.longBitsToDouble(b);
        if (Double.isNaN(w)) {
            return;
        }
        double small = Double.longBitsToDouble((a & 0x800fffffffffffffL) | ((1000L + random.nextInt(80)) << 52));
        sums(12, Check.bits(v), Check.bits(w), Check.bits(Math.abs(w - v)), Check.bits((v + w) * 0.5));
        cuts(12, Check.bits(small), Check.bits(Math.floor(small)), Check.bits(Math.ceil(small)),
            Check.bits(Math.rint(small)));
    }

    private static void sums(int g, long v, long w, long distance, long middle) {
        BalanceRoom room = new BalanceRoom();
        room.read(g, v);
        room.read(g + 1, w);
        room.order(9, g + 1);
        CHECK.due("MEET of " + v + " and " + w + " on " + g, middle, () -> room.show(g));
        room.read(g, w);
        CHECK.due("SWING from " + v + " to " + w + " on " + g, distance, () -> room.look(g, 4));
    }

    private static void cuts(int g, long v, long... due) {
        BalanceRoom room = new BalanceRoom();
        room.read(g, v);
        for (int code = 1; code <= 3; code++) {
            room.wipe();
            room.order(code, 0);
            CHECK.due("order " + code + " on " + v + " on " + g, due[code - 1], () -> room.show(g));
        }
    }
}
