/** A room with sixteen balances of four sorts and a tape of orders; ../shared/DOC.md tells what it promises. */
public final class BalanceRoom {
    public static final int NONE = -1;

    private static final int SORTS = 4;
    private static final int BALANCES_A_SORT = 4;
    private static final int BALANCES = SORTS * BALANCES_A_SORT;
    private static final int MOST_ORDERS = 12;
    private static final int HIGHEST_STEP = 20;
    private static final int STEP_OF_ONE = 10;

    private static final int SIZE = 0;
    private static final int DOWN = 1;
    private static final int UP = 2;
    private static final int NEAR = 3;
    private static final int SIGN = 4;
    private static final int LIKE = 5;
    private static final int MORE = 6;
    private static final int LESS = 7;
    private static final int STEP = 8;
    private static final int MEET = 9;
    private static final int TURN = 10;
    private static final int HELD = 11;
    private static final int PART = 12;

    private final Balance[] balances;
    private final int[] codes;
    private final int[] operands;
    private int orders;
    private int refusedOrder;

    public BalanceRoom() {
        Sort[] sorts = new Sort[SORTS];
        sorts[0] = new WholeSort(true);
        sorts[1] = new WholeSort(false);
        sorts[2] = new PointSort(true, 23, 8);
        sorts[3] = new PointSort(false, 52, 11);
        balances = new Balance[BALANCES];
        for (int g = 0; g < BALANCES; g++) {
            balances[g] = new Balance(sorts[g / BALANCES_A_SORT]);
        }
        codes = new int[MOST_ORDERS];
        operands = new int[MOST_ORDERS];
        orders = 0;
        refusedOrder = NONE;
    }

    public int read(int g, long bits) throws IllegalArgumentException {
        Balance balance = balanceAt(g);
        long v = balance.sort.fitted(bits);
        if (!balance.sort.isNumber(v)) {
            throw new IllegalArgumentException("not a number");
        }
        return balance.take(v);
    }

    public int order(int code, int k) throws IllegalArgumentException, IllegalStateException {
        if (code < SIZE || code > PART) {
            throw new IllegalArgumentException("no such order");
        }
        if (k < 0 || k > highestOperand(code)) {
            throw new IllegalArgumentException("the order does not take this k");
        }
        if (orders >= MOST_ORDERS) {
            throw new IllegalStateException("the tape is full");
        }
        codes[orders] = code;
        operands[orders] = k;
        orders++;
        return orders;
    }

    public int wipe() {
        int had = orders;
        orders = 0;
        return had;
    }

    public long show(int g) throws IllegalArgumentException, IllegalStateException, ArithmeticException {
        return tapeDoneOn(g);
    }

    public int keep(int g) throws IllegalArgumentException, IllegalStateException, ArithmeticException {
        long v = tapeDoneOn(g);
        return balanceAt(g).take(v);
    }

    public int failed() {
        return refusedOrder;
    }

    public long reach(int a, int b) throws IllegalArgumentException, IllegalStateException {
        Balance one = balanceAt(a);
        Balance other = balanceAt(b);
        if (!areOfOneSort(a, b)) {
            throw new IllegalStateException("the balances are of unlike sorts");
        }
        if (one.count == 0 || other.count == 0) {
            throw new IllegalStateException("a balance has no reading");
        }
        Sort sort = one.sort;
        long x = sort.size(one.now);
        long y = sort.size(other.now);
        return sort.sum(sort.greater(x, y), sort.half(sort.lesser(x, y)));
    }

    public int top(int sort, boolean greatest) throws IllegalArgumentException {
        if (sort < 0 || sort >= SORTS) {
            throw new IllegalArgumentException("no such sort");
        }
        int first = sort * BALANCES_A_SORT;
        int best = NONE;
        for (int g = first; g < first + BALANCES_A_SORT; g++) {
            if (balances[g].count > 0 && (best == NONE || isBetter(g, best, greatest))) {
                best = g;
            }
        }
        return best;
    }

    public long look(int g, int what) throws IllegalArgumentException {
        Balance balance = balanceAt(g);
        switch (what) {
            case 0: return balance.count;
            case 1: return balance.now;
            case 2: return balance.least;
            case 3: return balance.greatest;
            case 4: return balance.swing;
            case 5: return balance.trend;
            default: throw new IllegalArgumentException("no such what");
        }
    }

    public int forget(int g) throws IllegalArgumentException {
        Balance balance = balanceAt(g);
        int had = balance.count;
        balance.clear();
        return had;
    }

    private Balance balanceAt(int g) {
        if (g < 0 || g >= BALANCES) {
            throw new IllegalArgumentException("no such balance");
        }
        return balances[g];
    }

    private static boolean areOfOneSort(int a, int b) {
        return a / BALANCES_A_SORT == b / BALANCES_A_SORT;
    }

    private boolean isBetter(int g, int best, boolean greatest) {
        long now = balances[g].now;
        long bestNow = balances[best].now;
        Sort sort = balances[g].sort;
        return greatest ? sort.isAbove(now, bestNow) : sort.isAbove(bestNow, now);
    }

    private static boolean takesBalance(int code) {
        return code == LIKE || code == MORE || code == LESS || code == MEET || code == HELD;
    }

    private static int highestOperand(int code) {
        if (takesBalance(code)) {
            return BALANCES - 1;
        }
        return code == STEP ? HIGHEST_STEP : 0;
    }

    /** Clears the refused order before all else: failed() tells of the latest call, even of one that throws early. */
    private long tapeDoneOn(int g) {
        refusedOrder = NONE;
        Balance balance = balanceAt(g);
        if (balance.count == 0) {
            throw new IllegalStateException("the balance has no reading");
        }
        long v = balance.now;
        for (int i = 0; i < orders; i++) {
            if (takesBalance(codes[i])) {
                refuseUnfit(i, g, v);
                v = against(codes[i], balances[operands[i]], v);
            } else {
                v = alone(codes[i], operands[i], balance.sort, v);
            }
        }
        return v;
    }

    private void refuseUnfit(int i, int g, long v) {
        int k = operands[i];
        Balance other = balances[k];
        if (!areOfOneSort(g, k) || other.count == 0) {
            refusedOrder = i;
            throw new IllegalStateException("the order's balance is of another sort or has no reading");
        }
        if (codes[i] == MEET && other.sort.areOppositeInfinities(v, other.now)) {
            refusedOrder = i;
            throw new ArithmeticException("infinite ones with unlike signs do not meet");
        }
    }

    private static long alone(int code, int k, Sort sort, long v) {
        switch (code) {
            case SIZE: return sort.size(v);
            case DOWN: return sort.down(v);
            case UP: return sort.up(v);
            case NEAR: return sort.near(v);
            case SIGN: return sort.sign(v);
            case STEP: return sort.step(v, k - STEP_OF_ONE);
            case TURN: return sort.turned(v);
            default: return sort.part(v);
        }
    }

    private static long against(int code, Balance other, long v) {
        Sort sort = other.sort;
        switch (code) {
            case LIKE: return sort.like(v, other.now);
            case MORE: return sort.greater(v, other.now);
            case LESS: return sort.lesser(v, other.now);
            case MEET: return sort.half(sort.sum(v, other.now));
            default: return sort.greater(other.least, sort.lesser(v, other.greatest));
        }
    }

    private static final class Balance {
        final Sort sort;
        int count;
        long now;
        long least;
        long greatest;
        long swing;
        long trend;

        Balance(Sort sort) {
            this.sort = sort;
        }

        int take(long v) {
            if (count == 0) {
                least = v;
                greatest = v;
            } else {
                long change = sort.change(now, v);
                trend = sort.sign(change);
                swing = sort.greater(swing, sort.size(change));
                least = sort.lesser(least, v);
                greatest = sort.greater(greatest, v);
            }
            now = v;
            count++;
            return count;
        }

        /** The bits 0 are 0 and 0.0 alike, so one value serves every sort. */
        void clear() {
            count = 0;
            now = 0;
            least = 0;
            greatest = 0;
            swing = 0;
            trend = 0;
        }
    }

    /** What can be done with numbers of one sort. A number is held as its bits; one of 32 bits as an int's value. */
    private abstract static class Sort {
        private final boolean narrow;

        Sort(boolean narrow) {
            this.narrow = narrow;
        }

        final long fitted(long bits) {
            return narrow ? (int) bits : bits;
        }

        final long greater(long v, long w) {
            return isAbove(w, v) ? w : v;
        }

        final long lesser(long v, long w) {
            return isAbove(v, w) ? w : v;
        }

        abstract boolean isNumber(long v);

        abstract boolean isAbove(long v, long w);

        abstract boolean areOppositeInfinities(long v, long w);

        abstract long size(long v);

        abstract long down(long v);

        abstract long up(long v);

        abstract long near(long v);

        abstract long sign(long v);

        abstract long like(long v, long w);

        abstract long step(long v, int p);

        abstract long turned(long v);

        abstract long part(long v);

        abstract long sum(long v, long w);

        abstract long half(long v);

        abstract long change(long from, long to);
    }

    /** INTS and LONGS. */
    private static final class WholeSort extends Sort {
        WholeSort(boolean narrow) {
            super(narrow);
        }

        boolean isNumber(long v) {
            return true;
        }

        boolean isAbove(long v, long w) {
            return v > w;
        }

        boolean areOppositeInfinities(long v, long w) {
            return false;
        }

        long size(long v) {
            return v < 0 ? fitted(-v) : v;
        }

        long down(long v) {
            return v;
        }

        long up(long v) {
            return v;
        }

        long near(long v) {
            return v;
        }

        long sign(long v) {
            if (v == 0) {
                return 0;
            }
            return v < 0 ? -1 : 1;
        }

        long like(long v, long w) {
            return w < 0 ? fitted(-size(v)) : size(v);
        }

        long step(long v, int p) {
            return p < 0 ? v : (v >> p) << p;
        }

        long turned(long v) {
            return fitted(-v);
        }

        long part(long v) {
            return 0;
        }

        long sum(long v, long w) {
            return fitted(v + w);
        }

        long half(long v) {
            return v >> 1;
        }

        long change(long from, long to) {
            return fitted(to - from);
        }
    }

    /**
     * FLOATS and DOUBLES, reckoned on their bits: the language leaves no way from bits to a float and back, and bits
     * keep -0.0 apart from 0.0. A finite number is its significand * 2^power, with its sign.
     */
    private static final class PointSort extends Sort {
        /** Bits behind the last one while adding; three would do to round rightly, the lowest marking what fell off. */
        private static final int SPARE_BITS = 8;
        /** Every significand here is below 2^62, so shifted further down it is less than a half. */
        private static final int LONGEST_SHIFT = 62;
        private static final int LONG_BITS = 64;

        private final int fractionBits;
        private final long hiddenBit;
        private final long signBits;
        private final long infinite;
        private final long one;
        private final int infiniteField;
        private final int lowestPower;

        PointSort(boolean narrow, int fractionBits, int exponentBits) {
            super(narrow);
            int bias = (1 << (exponentBits - 1)) - 1;
            this.fractionBits = fractionBits;
            hiddenBit = 1L << fractionBits;
            signBits = -1L << (fractionBits + exponentBits);
            infiniteField = (1 << exponentBits) - 1;
            infinite = (long) infiniteField << fractionBits;
            one = (long) bias << fractionBits;
            lowestPower = 1 - bias - fractionBits;
        }

        boolean isNumber(long v) {
            return size(v) <= infinite;
        }

        boolean isAbove(long v, long w) {
            return rank(v) > rank(w);
        }

        boolean areOppositeInfinities(long v, long w) {
            return isInfinite(v) && isInfinite(w) && v != w;
        }

        long size(long v) {
            return v & ~signBits;
        }

        long down(long v) {
            return cut(v, v < 0);
        }

        long up(long v) {
            return cut(v, v >= 0);
        }

        long near(long v) {
            int places = -power(v);
            return places <= 0 ? v : packed(v < 0, shiftedToNearest(significand(v), places), 0);
        }

        long sign(long v) {
            return size(v) == 0 ? v : signed(v < 0, one);
        }

        long like(long v, long w) {
            return signed(w < 0, size(v));
        }

        long step(long v, int p) {
            return scaled(near(scaled(v, -p)), p);
        }

        long turned(long v) {
            return signed(v >= 0, size(v));
        }

        long part(long v) {
            return isInfinite(v) ? signed(v < 0, 0) : sum(v, turned(cut(v, v < 0)));
        }

        long sum(long v, long w) {
            if (isInfinite(v)) {
                return v;
            }
            if (isInfinite(w)) {
                return w;
            }
            long big = size(v) >= size(w) ? v : w;
            long small = size(v) >= size(w) ? w : v;
            long more = significand(big) << SPARE_BITS;
            long less = shiftedWithMark(significand(small) << SPARE_BITS, power(big) - power(small));
            boolean alike = (v < 0) == (w < 0);
            long together = alike ? more + less : more - less;
            boolean negative = together == 0 ? v < 0 && w < 0 : big < 0;
            return packed(negative, together, power(big) - SPARE_BITS);
        }

        long half(long v) {
            return scaled(v, -1);
        }

        long change(long from, long to) {
            return isInfinite(from) && from == to ? 0 : sum(to, turned(from));
        }

        private boolean isInfinite(long v) {
            return size(v) == infinite;
        }

        private long signed(boolean negative, long size) {
            return negative ? size | signBits : size;
        }

        /** Grows with the number; -0.0 has a rank of its own below that of 0.0. */
        private long rank(long v) {
            return v < 0 ? -1 - size(v) : v;
        }

        private int exponentField(long v) {
            return (int) (v >>> fractionBits) & infiniteField;
        }

        private long significand(long v) {
            long fraction = v & (hiddenBit - 1);
            return exponentField(v) == 0 ? fraction : fraction | hiddenBit;
        }

        private int power(long v) {
            return lowestPower + Math.max(exponentField(v), 1) - 1;
        }

        /** The whole number next to v on the side of 0, or on the other side; v itself, if it is whole or infinite. */
        private long cut(long v, boolean awayFromZero) {
            int places = -power(v);
            if (places <= 0) {
                return v;
            }
            long significand = significand(v);
            long whole = places > LONGEST_SHIFT ? 0 : significand >>> places;
            boolean hasRest = places > LONGEST_SHIFT ? significand != 0 : (whole << places) != significand;
            return packed(v < 0, awayFromZero && hasRest ? whole + 1 : whole, 0);
        }

        private long scaled(long v, int n) {
            return isInfinite(v) ? v : packed(v < 0, significand(v), power(v) + n);
        }

        /** The number nearest to significand * 2^power. */
        private long packed(boolean negative, long significand, int power) {
            if (significand == 0) {
                return signed(negative, 0);
            }
            int length = LONG_BITS - Long.numberOfLeadingZeros(significand);
            int surplus = Math.max(length - fractionBits - 1, lowestPower - power);
            int field = power + surplus - lowestPower;
            if (field >= infiniteField - 1) {
                return signed(negative, infinite);
            }
            long kept = surplus > 0 ? shiftedToNearest(significand, surplus) : significand << -surplus;
            // Added, not joined: the hidden bit, or a carry out of the rounding, raises the exponent's field by itself.
            return signed(negative, ((long) field << fractionBits) + kept);
        }

        private static long shiftedToNearest(long significand, int places) {
            if (places > LONGEST_SHIFT) {
                return 0;
            }
            long whole = significand >>> places;
            long rest = significand - (whole << places);
            long middle = 1L << (places - 1);
            boolean goesUp = rest > middle || (rest == middle && (whole & 1) == 1);
            return goesUp ? whole + 1 : whole;
        }

        /** Shifted down; the last bit is set if anything fell off, so that no sum looks like a middle that is none. */
        private static long shiftedWithMark(long significand, int places) {
            if (places > LONGEST_SHIFT) {
                return significand == 0 ? 0 : 1;
            }
            long whole = significand >>> places;
            return (whole << places) == significand ? whole : whole | 1;
        }
    }
}
