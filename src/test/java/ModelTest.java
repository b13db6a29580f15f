import java.util.Random;

/**
 * Long runs of calls, the same ones every time, on a room and on a second one that is written with Java's own floats
 * and doubles; every answer, and at each run's end the whole state, must be alike.
 */
public final class ModelTest {
    private static final int RUNS = 3000;
    private static final int CALLS = 512;
    private static final Check CHECK = new Check();

    public static void main(String[] args) {
        for (int run = 0; run < RUNS && !CHECK.hasWrong(); run++) {
            new Run(run).go();
        }
        CHECK.end();
    }

    private static final class Run {
        private final int number;
        private final Random random;
        private final BalanceRoom room = new BalanceRoom();
        private final Model model = new Model();
        private final int sortInUse;

        Run(int number) {
            this.number = number;
            random = new Random(number);
            sortInUse = random.nextInt(6);
        }

        void go() {
            for (int i = 0; i < CALLS - 98; i++) {
                oneCall();
            }
            for (int g = 0; g < 16; g++) {
                for (int what = 0; what < 6; what++) {
                    look(g, what);
                }
            }
            same("failed()", room::failed, model::failed);
            same("wipe()", room::wipe, model::wipe);
        }

        private void oneCall() {
            int g = balance();
            int dice = random.nextInt(100);
            if (dice < 32) {
                long bits = number(random.nextInt(12) == 0 ? random.nextInt(4) : Math.floorDiv(g, 4));
                same("read(" + g + ", " + bits + ")", () -> room.read(g, bits), () -> model.read(g, bits));
            } else if (dice < 52) {
                order();
            } else if (dice < 56) {
                same("wipe()", room::wipe, model::wipe);
            } else if (dice < 68) {
                same("show(" + g + ")", () -> room.show(g), () -> model.show(g));
            } else if (dice < 80) {
                same("keep(" + g + ")", () -> room.keep(g), () -> model.keep(g));
            } else if (dice < 84) {
                same("failed()", room::failed, model::failed);
            } else if (dice < 88) {
                int b = balance();
                same("reach(" + g + ", " + b + ")", () -> room.reach(g, b), () -> model.reach(g, b));
            } else if (dice < 92) {
                int sort = random.nextInt(6) - 1;
                boolean greatest = random.nextBoolean();
                same("top(" + sort + ", " + greatest + ")", () -> room.top(sort, greatest),
                    () -> model.top(sort, greatest));
            } else if (dice < 98) {
                look(g, random.nextInt(8) - 1);
            } else {
                same("forget(" + g + ")", () -> room.forget(g), () -> model.forget(g));
            }
        }

        private void order() {
            int code = random.nextInt(40) == 0 ? random.nextInt(30) - 10 : random.nextInt(13);
            boolean wild = random.nextInt(40) == 0;
            int k;
            if (wild) {
                k = random.nextInt(30) - 5;
            } else if (code == 8) {
                k = random.nextInt(21);
            } else {
                k = code == 5 || code == 6 || code == 7 || code == 9 || code == 11 ? balance() : 0;
            }
            same("order(" + code + ", " + k + ")", () -> room.order(code, k), () -> model.order(code, k));
        }

        private void look(int g, int what) {
            same("look(" + g + ", " + what + ")", () -> room.look(g, what), () -> model.look(g, what));
        }

        /** Most runs stay with the balances of one sort, so that orders seldom meet another sort. */
        private int balance() {
            if (random.nextInt(60) == 0) {
                return random.nextInt(24) - 4;
            }
            return sortInUse < 4 ? sortInUse * 4 + random.nextInt(4) : random.nextInt(16);
        }

        private long number(int sort) {
            switch (sort) {
                case 0: return whole(32);
                case 1: return whole(64);
                case 2: return floatBits();
                default: return doubleBits();
            }
        }

        private long whole(int width) {
            switch (random.nextInt(4)) {
                case 0: return random.nextInt(41) - 20;
                case 1: return (1L << (width - 1)) + random.nextInt(5) - 2;
                case 2: return (1L << random.nextInt(width)) * (random.nextBoolean() ? 1 : -1);
                default: return random.nextLong();
            }
        }

        private long floatBits() {
            int sign = random.nextBoolean() ? 0 : 1 << 31;
            switch (random.nextInt(8)) {
                case 0: return sign;
                case 1: return 0x7f800000 | sign;
                case 2: return random.nextInt(6) | sign;
                case 3: return (0x7f7fffff - random.nextInt(4)) | sign;
                case 4: return (((127 + random.nextInt(30) - 4) << 23) + random.nextInt(3) - 1) | sign;
                case 5: return Float.floatToRawIntBits((random.nextInt(4001) - 2000) / 8f);
                case 6: return (((127 + random.nextInt(50) - 25) << 23) + random.nextInt(1 << 23)) | sign;
                default: return random.nextLong();
            }
        }

        private long doubleBits() {
            long sign = random.nextBoolean() ? 0 : 1L << 63;
            long fraction = random.nextLong() >>> 12;
            switch (random.nextInt(8)) {
                case 0: return sign;
                case 1: return 0x7ff0000000000000L | sign;
                case 2: return random.nextInt(6) | sign;
                case 3: return (0x7fefffffffffffffL - random.nextInt(4)) | sign;
                case 4: return (((1023L + random.nextInt(60) - 4) << 52) + random.nextInt(3) - 1) | sign;
                case 5: return Double.doubleToRawLongBits((random.nextInt(4001) - 2000) / 8.0);
                case 6: return (((1023L + random.nextInt(110) - 55) << 52) + fraction) | sign;
                default: return random.nextLong();
            }
        }

        private void same(String call, Check.Call one, Check.Call other) {
            CHECK.compare("run " + number + ": " + call, Check.outcome(other), Check.outcome(one));
        }
    }

    /** The document's rooms again, with the operations of Java and of its library. */
    private static final class Model {
        private final int[] count = new int[16];
        private final long[][] told = new long[16][6];
        private final int[][] tape = new int[12][2];
        private int length = 0;
        private int refused = -1;

        long read(int g, long bits) {
            demandBalance(g);
            long v = g / 4 % 2 == 0 ? (int) bits : bits;
            if (g / 4 == 2 && Float.isNaN(Float.intBitsToFloat((int) v))) {
                throw new IllegalArgumentException();
            }
            if (g / 4 == 3 && Double.isNaN(Double.longBitsToDouble(v))) {
                throw new IllegalArgumentException();
            }
            return reading(g, v);
        }

        long order(int code, int k) {
            boolean pair = code == 5 || code == 6 || code == 7 || code == 9 || code == 11;
            int high = pair ? 15 : code == 8 ? 20 : 0;
            if (code < 0 || code > 12 || k < 0 || k > high) {
                throw new IllegalArgumentException();
            }
            if (length == 12) {
                throw new IllegalStateException();
            }
            tape[length] = new int[] {code, k};
            return ++length;
        }

        long wipe() {
            int had = length;
            length = 0;
            return had;
        }

        long show(int g) {
            refused = -1;
            demandBalance(g);
            if (count[g] == 0) {
                throw new IllegalStateException();
            }
            long v = told[g][1];
            for (int i = 0; i < length; i++) {
                refused = i;
                v = done(tape[i][0], tape[i][1], g / 4, v);
            }
            refused = -1;
            return v;
        }

        long keep(int g) {
            return reading(g, show(g));
        }

        long failed() {
            return refused;
        }

        long reach(int a, int b) {
            demandBalance(a);
            demandBalance(b);
            if (a / 4 != b / 4 || count[a] == 0 || count[b] == 0) {
                throw new IllegalStateException();
            }
            long x = done(0, 0, a / 4, told[a][1]);
            long y = done(0, 0, a / 4, told[b][1]);
            switch (a / 4) {
                case 0: return Math.max((int) x, (int) y) + Math.floorDiv(Math.min((int) x, (int) y), 2);
                case 1: return Math.max(x, y) + Math.floorDiv(Math.min(x, y), 2L);
                case 2: return bits(Math.max(f(x), f(y)) + Math.min(f(x), f(y)) * 0.5f);
                default: return bits(Math.max(d(x), d(y)) + Math.min(d(x), d(y)) * 0.5);
            }
        }

        long top(int sort, boolean greatest) {
            if (sort < 0 || sort > 3) {
                throw new IllegalArgumentException();
            }
            int best = -1;
            for (int g = sort * 4 + 3; g >= sort * 4; g--) {
                if (count[g] > 0 && (best < 0 || inOrder(sort, greatest ? best : g, greatest ? g : best))) {
                    best = g;
                }
            }
            return best;
        }

        long look(int g, int what) {
            demandBalance(g);
            if (what < 0 || what > 5) {
                throw new IllegalArgumentException();
            }
            return what == 0 ? count[g] : told[g][what];
        }

        long forget(int g) {
            demandBalance(g);
            int had = count[g];
            count[g] = 0;
            told[g] = new long[6];
            return had;
        }

        private static void demandBalance(int g) {
            if (g < 0 || g > 15) {
                throw new IllegalArgumentException();
            }
        }

        private boolean inOrder(int sort, int a, int b) {
            return lesser(sort, told[a][1], told[b][1]) == told[a][1];
        }

        private long reading(int g, long v) {
            long[] t = told[g];
            int sort = g / 4;
            if (count[g] == 0) {
                t[2] = v;
                t[3] = v;
            } else {
                long change = less(sort, v, t[1]);
                t[5] = done(4, 0, sort, change);
                t[4] = greater(sort, t[4], done(0, 0, sort, change));
                t[2] = lesser(sort, t[2], v);
                t[3] = greater(sort, t[3], v);
            }
            t[1] = v;
            return ++count[g];
        }

        private static long less(int sort, long v, long w) {
            switch (sort) {
                case 0: return (int) v - (int) w;
                case 1: return v - w;
                case 2: return Float.isInfinite(f(v)) && f(v) == f(w) ? 0 : bits(f(v) - f(w));
                default: return Double.isInfinite(d(v)) && d(v) == d(w) ? 0 : bits(d(v) - d(w));
            }
        }

        private static long greater(int sort, long v, long w) {
            switch (sort) {
                case 2: return bits(Math.max(f(v), f(w)));
                case 3: return bits(Math.max(d(v), d(w)));
                default: return Math.max(v, w);
            }
        }

        private static long lesser(int sort, long v, long w) {
            switch (sort) {
                case 2: return bits(Math.min(f(v), f(w)));
                case 3: return bits(Math.min(d(v), d(w)));
                default: return Math.min(v, w);
            }
        }

        private long done(int code, int k, int sort, long v) {
            if (code == 5 || code == 6 || code == 7 || code == 9 || code == 11) {
                if (k / 4 != sort || count[k] == 0) {
                    throw new IllegalStateException();
                }
                if (code == 6) {
                    return greater(sort, v, told[k][1]);
                }
                if (code == 7) {
                    return lesser(sort, v, told[k][1]);
                }
                if (code == 11) {
                    return greater(sort, told[k][2], lesser(sort, v, told[k][3]));
                }
            }
            long w = code == 5 || code == 9 ? told[k][1] : 0;
            switch (sort) {
                case 0: return ofInt(code, k, (int) v, (int) w);
                case 1: return ofLong(code, k, v, w);
                case 2: return bits(ofFloat(code, k, f(v), f(w)));
                default: return bits(ofDouble(code, k, d(v), d(w)));
            }
        }

        private static int ofInt(int code, int k, int v, int w) {
            switch (code) {
                case 0: return Math.abs(v);
                case 4: return Integer.signum(v);
                case 5: return w < 0 ? -Math.abs(v) : Math.abs(v);
                case 8: return k < 10 ? v : v - Math.floorMod(v, 1 << (k - 10));
                case 9: return Math.floorDiv(v + w, 2);
                case 10: return -v;
                case 12: return 0;
                default: return v;
            }
        }

        private static long ofLong(int code, int k, long v, long w) {
            switch (code) {
                case 0: return Math.abs(v);
                case 4: return Long.signum(v);
                case 5: return w < 0 ? -Math.abs(v) : Math.abs(v);
                case 8: return k < 10 ? v : v - Math.floorMod(v, 1L << (k - 10));
                case 9: return Math.floorDiv(v + w, 2L);
                case 10: return -v;
                case 12: return 0;
                default: return v;
            }
        }

        private static float ofFloat(int code, int k, float v, float w) {
            switch (code) {
                case 0: return Math.abs(v);
                case 1: return (float) Math.floor(v);
                case 2: return (float) Math.ceil(v);
                case 3: return (float) Math.rint(v);
                case 4: return Math.signum(v);
                case 5: return Math.copySign(v, w);
                case 8: return (float) Math.rint(v * (float) Math.pow(2, 10 - k)) * (float) Math.pow(2, k - 10);
                case 9:
                    if (Float.isInfinite(v) && v == -w) {
                        throw new ArithmeticException();
                    }
                    return (v + w) * 0.5f;
                case 10: return -v;
                default: return Float.isInfinite(v) ? Math.copySign(0f, v) : v - (float) Math.floor(v);
            }
        }

        private static double ofDouble(int code, int k, double v, double w) {
            switch (code) {
                case 0: return Math.abs(v);
                case 1: return Math.floor(v);
                case 2: return Math.ceil(v);
                case 3: return Math.rint(v);
                case 4: return Math.signum(v);
                case 5: return Math.copySign(v, w);
                case 8: return Math.rint(v * Math.pow(2, 10 - k)) * Math.pow(2, k - 10);
                case 9:
                    if (Double.isInfinite(v) && v == -w) {
                        throw new ArithmeticException();
                    }
                    return (v + w) * 0.5;
                case 10: return -v;
                default: return Double.isInfinite(v) ? Math.copySign(0.0, v) : v - Math.floor(v);
            }
        }

        private static float f(long bits) {
            return Float.intBitsToFloat((int) bits);
        }

        private static double d(long bits) {
            return Double.longBitsToDouble(bits);
        }

        private static long bits(float v) {
            return Float.floatToRawIntBits(v);
        }

        private static long bits(double v) {
            return Double.doubleToRawLongBits(v);
        }
    }
}
