/**
 * Money without an error: sums of a least unit, shares, texts, pools and rows of acts.
 * Words in capitals are those of the document (../shared/DOC.md).
 *
 * All rows are made with the object and used again by every call, because all calls of a
 * run share one room: no call makes an object, but for the exceptions of the document.
 */
public final class ExactMoney {
    public static final int BAD = -1, OVER = -2, LESS = -3, NONE = -4;

    private static final int FINE = 1;

    /** Stands for an exception inside the class, so that a ROW OF ACTS has none to catch. */
    private static final int THREW = -5;

    private static final int REGISTERS = 16;
    private static final int POOLS = 4;
    private static final int WEIGHTS = 12;
    private static final long HEAVIEST = 1000000000000L;
    private static final int WAYS = 5;
    private static final int DOWN = 0;
    private static final int UP = 1;
    private static final int HALF_UP = 2;
    private static final int HALF_EVEN = 4;
    private static final int MOST_ZEROS = 18;
    private static final int MOST_BEHIND_POINT = 12;
    private static final int GREATEST_Q = 1000000;
    private static final int KINDS_OF_ACTS = 5;
    private static final int LONGEST_ROW = 12;

    private final Ledger ledger = new Ledger();
    private final Ledger before = new Ledger();
    private final Desk desk = new Desk();
    private final Decimal decimal = new Decimal();
    private final Tape tape = new Tape();
    private final long[] weights = new long[WEIGHTS];
    private final long[] lost = new long[WEIGHTS];
    private final int[][] row = new int[LONGEST_ROW][4];
    private int rowLength = 0;
    private int behindPoint = 2;
    private int faultPlace = NONE;
    private int begunActs = 0;
    private int failure = 0;

    public ExactMoney() {
    }

    public int put(int r, long v) {
        if (!isRegister(r) || v < 0) {
            return BAD;
        }
        ledger.sums[r].setLong(v);
        return FINE;
    }

    public int more(int r, int v) {
        if (!isRegister(r)) {
            return BAD;
        }
        desk.first.copy(ledger.sums[r]);
        desk.first.scale(Wide.BASE, v >>> Wide.BITS);
        desk.first.scale(Wide.BASE, v & Wide.MASK);
        return keepSum(r, desk.first);
    }

    public long limb(int r, int i) {
        if (!isRegister(r) || i < 0 || i > 7) {
            return BAD;
        }
        return ledger.sums[r].bits32(i);
    }

    // ---- acts

    public int add(int r, int a, int b) {
        if (!areRegisters(r, a, b)) {
            return BAD;
        }
        desk.first.copy(ledger.sums[a]);
        desk.first.plus(ledger.sums[b]);
        return keepSum(r, desk.first);
    }

    public int take(int r, int a, int b) {
        if (!areRegisters(r, a, b)) {
            return BAD;
        }
        if (ledger.sums[a].compareWith(ledger.sums[b]) < 0) {
            return LESS;
        }
        desk.first.copy(ledger.sums[a]);
        desk.first.minus(ledger.sums[b]);
        return keepSum(r, desk.first);
    }

    public int times(int r, int a, long above, long below, int way) throws ArithmeticException {
        int answer = timesOrThrew(r, a, above, below, way);
        if (answer == THREW) {
            throw new ArithmeticException("below is 0");
        }
        return answer;
    }

    public int round(int r, int a, int u, int way) {
        if (!isRegister(r) || !isRegister(a) || u < 0 || u > MOST_ZEROS || !isWay(way)) {
            return BAD;
        }
        desk.above.copy(ledger.sums[a]);
        desk.below.setLong(powerOfTen(u));
        desk.split();
        desk.settle(way);
        desk.first.product(desk.quotient, desk.below);
        return keepSum(r, desk.first);
    }

    public int divide(int r, int a, int b) throws ArithmeticException {
        int answer = divideOrThrew(r, a, b);
        if (answer == THREW) {
            throw new ArithmeticException("the SUM of b is 0");
        }
        return answer;
    }

    public int order(int a, int b) {
        if (!isRegister(a) || !isRegister(b)) {
            return BAD;
        }
        return 1 + ledger.sums[a].compareWith(ledger.sums[b]);
    }

    public int weight(int k, long w) {
        if (k < 0 || k >= WEIGHTS || w < 0 || w > HEAVIEST) {
            return BAD;
        }
        weights[k] = w;
        return FINE;
    }

    public int share(int a, int from, int n) {
        if (!isRegister(a) || n < 1 || n > WEIGHTS || !isRegister(from) || !isRegister(from + n - 1)) {
            return BAD;
        }
        long all = weightOfFirst(n);
        if (all == 0) {
            return NONE;
        }
        // The SUM's own REGISTER may be one of those that the SHARES come to.
        desk.second.copy(ledger.sums[a]);
        long lostTogether = 0;
        for (int k = 0; k < n; k++) {
            desk.first.setLong(weights[k]);
            desk.above.product(desk.second, desk.first);
            desk.below.setLong(all);
            desk.split();
            ledger.sums[from + k].copy(desk.quotient);
            lost[k] = desk.rest.lowestLong();
            lostTogether += lost[k];
        }
        int left = (int) (lostTogether / all);
        for (int handedOut = 0; handedOut < left; handedOut++) {
            int k = greatestLost(n);
            ledger.sums[from + k].increment();
            lost[k] = -1;
        }
        return left;
    }

    // ---- digits, texts

    public int figures(int a) {
        if (!isRegister(a)) {
            return BAD;
        }
        decimal.spell(ledger.sums[a]);
        return decimal.count;
    }

    public int figure(int a, int i) throws ArrayIndexOutOfBoundsException {
        if (!isRegister(a)) {
            return BAD;
        }
        decimal.spell(ledger.sums[a]);
        if (i < 0 || i >= decimal.count) {
            throw new ArrayIndexOutOfBoundsException("no such figure");
        }
        return decimal.figures[i];
    }

    public int unit(int u) {
        if (u < 0 || u > MOST_BEHIND_POINT) {
            return BAD;
        }
        int was = behindPoint;
        behindPoint = u;
        return was;
    }

    public int print(int a) {
        if (!isRegister(a)) {
            return BAD;
        }
        decimal.spell(ledger.sums[a]);
        decimal.write(behindPoint);
        return decimal.length;
    }

    public int out(int i) throws ArrayIndexOutOfBoundsException {
        if (i < 0 || i >= decimal.length) {
            throw new ArrayIndexOutOfBoundsException("no such byte");
        }
        return decimal.text[i];
    }

    public int feed(int c) {
        if (c < 0 || c > 255) {
            return BAD;
        }
        if (tape.isFull()) {
            return OVER;
        }
        tape.append(c);
        return tape.length;
    }

    public int read(int r) {
        if (!isRegister(r)) {
            return BAD;
        }
        int length = tape.length;
        int fault = 0;
        faultPlace = tape.firstFault(behindPoint);
        if (faultPlace != NONE) {
            fault = 1;
        } else if (!tape.countTo(desk.first)) {
            fault = 2;
            faultPlace = length;
        } else {
            ledger.sums[r].copy(desk.first);
        }
        tape.length = 0;
        return fault == 0 ? FINE : -10 - fault;
    }

    public int place() {
        return faultPlace;
    }

    // ---- pools

    public int fee(int pool, int p, int q) {
        if (!isPool(pool) || p < 0 || p >= q || q > GREATEST_Q) {
            return BAD;
        }
        boolean wasOpen = ledger.pools[pool].isOpen();
        ledger.pools[pool].startAnew(p, q);
        return wasOpen ? 1 : 0;
    }

    public int join(int pool, int a, int b, int r) {
        if (!isPool(pool) || !areRegisters(r, a, b)) {
            return BAD;
        }
        int answer = ledger.pools[pool].joinWith(ledger.sums[a], ledger.sums[b], desk);
        return answer == FINE ? keepSum(r, desk.first) : answer;
    }

    public int leave(int pool, int s, int a, int b) {
        if (!isPool(pool) || !areRegisters(s, a, b)) {
            return BAD;
        }
        int answer = ledger.pools[pool].leaveWith(ledger.sums[s], desk);
        if (answer == FINE) {
            ledger.sums[a].copy(desk.first);
            ledger.sums[b].copy(desk.second);
        }
        return answer;
    }

    public int give(int pool, int side, int a, int r) {
        if (!isPool(pool) || !isSide(side) || !isRegister(a) || !isRegister(r)) {
            return BAD;
        }
        int answer = ledger.pools[pool].swapGiven(side, ledger.sums[a], desk);
        return answer == FINE ? keepSum(r, desk.first) : answer;
    }

    public int ask(int pool, int side, int a, int r) {
        if (!isPool(pool) || !isSide(side) || !isRegister(a) || !isRegister(r)) {
            return BAD;
        }
        int answer = ledger.pools[pool].swapAsked(side, ledger.sums[a], desk);
        return answer == FINE ? keepSum(r, desk.first) : answer;
    }

    public int see(int pool, int what, int r) {
        if (!isPool(pool) || what < 0 || what > 2 || !isRegister(r)) {
            return BAD;
        }
        Pool seen = ledger.pools[pool];
        ledger.sums[r].copy(what == 2 ? seen.parts : seen.sides[what]);
        return FINE;
    }

    // ---- rows of acts

    public int later(int act, int r, int a, int b) {
        if (act < 0 || act >= KINDS_OF_ACTS) {
            return BAD;
        }
        if (rowLength >= LONGEST_ROW) {
            return OVER;
        }
        row[rowLength][0] = act;
        row[rowLength][1] = r;
        row[rowLength][2] = a;
        row[rowLength][3] = b;
        rowLength++;
        return rowLength;
    }

    public int done() {
        int count = rowLength;
        rowLength = 0;
        failure = 0;
        before.copy(ledger);
        for (int k = 0; k < count; k++) {
            begunActs++;
            int answer = perform(row[k][0], row[k][1], row[k][2], row[k][3]);
            if (answer != FINE) {
                ledger.copy(before);
                failure = answer == THREW ? 1 : answer;
                return -10 - k;
            }
        }
        return count;
    }

    public int tries() {
        return begunActs;
    }

    public int why() {
        return failure;
    }

    // ---- what the calls above share

    private static boolean isRegister(int r) {
        return r >= 0 && r < REGISTERS;
    }

    private static boolean areRegisters(int r, int a, int b) {
        return isRegister(r) && isRegister(a) && isRegister(b);
    }

    private static boolean isPool(int pool) {
        return pool >= 0 && pool < POOLS;
    }

    private static boolean isSide(int side) {
        return side == 0 || side == 1;
    }

    private static boolean isWay(int way) {
        return way >= 0 && way < WAYS;
    }

    private static long powerOfTen(int u) {
        long power = 1;
        for (int k = 0; k < u; k++) {
            power *= 10;
        }
        return power;
    }

    private int keepSum(int r, Wide sum) {
        if (!sum.isSum()) {
            return OVER;
        }
        ledger.sums[r].copy(sum);
        return FINE;
    }

    private int timesOrThrew(int r, int a, long above, long below, int way) {
        if (!isRegister(r) || !isRegister(a) || !isWay(way) || above < 0 || below < 0) {
            return BAD;
        }
        if (below == 0) {
            return THREW;
        }
        desk.first.setLong(above);
        desk.above.product(ledger.sums[a], desk.first);
        desk.below.setLong(below);
        desk.split();
        desk.settle(way);
        return keepSum(r, desk.quotient);
    }

    private int divideOrThrew(int r, int a, int b) {
        if (!areRegisters(r, a, b)) {
            return BAD;
        }
        if (ledger.sums[b].isZero()) {
            return THREW;
        }
        desk.above.copy(ledger.sums[a]);
        desk.below.copy(ledger.sums[b]);
        desk.split();
        return keepSum(r, desk.quotient);
    }

    private long weightOfFirst(int n) {
        long all = 0;
        for (int k = 0; k < n; k++) {
            all += weights[k];
        }
        return all;
    }

    private int greatestLost(int n) {
        int greatest = 0;
        for (int k = 1; k < n; k++) {
            if (lost[k] > lost[greatest]) {
                greatest = k;
            }
        }
        return greatest;
    }

    private int perform(int act, int r, int a, int b) {
        switch (act) {
            case 0:
                return add(r, a, b);
            case 1:
                return take(r, a, b);
            case 2:
                return give(b, r & 1, a, r);
            case 3:
                return timesOrThrew(r, a, b, 2, HALF_UP);
            default:
                return divideOrThrew(r, a, b);
        }
    }

    /**
     * A whole number in limbs of 16 bits, the lowest first. So short a limb keeps every
     * product and every guess of a division inside a long with its sign. The widest number
     * that is asked for, a SUM times a long, scaled for a division, needs 21 limbs, and the
     * division one more.
     */
    private static final class Wide {
        private static final int BITS = 16;
        private static final int BASE = 65536;
        private static final int MASK = 65535;
        private static final int LIMBS = 24;
        private static final int SUM_LIMBS = 16;
        private static final int POOL_LIMBS = 7;
        private static final int POOL_TOP = 16;

        private final int[] limbs = new int[LIMBS];

        private void clear() {
            for (int i = 0; i < LIMBS; i++) {
                limbs[i] = 0;
            }
        }

        private void copy(Wide from) {
            System.arraycopy(from.limbs, 0, limbs, 0, LIMBS);
        }

        private void setLong(long v) {
            clear();
            for (int i = 0; i < 4; i++) {
                limbs[i] = (int) (v >>> (BITS * i)) & MASK;
            }
        }

        private long lowestLong() {
            return bits32(1) << 32 | bits32(0);
        }

        private long bits32(int i) {
            return (long) limbAt(2 * i + 1) << BITS | limbAt(2 * i);
        }

        /** Limbs beyond either end are 0, so that a division may look past them. */
        private int limbAt(int i) {
            return i >= 0 && i < LIMBS ? limbs[i] : 0;
        }

        private int usedLimbs() {
            int used = LIMBS;
            while (used > 0 && limbs[used - 1] == 0) {
                used--;
            }
            return used;
        }

        private boolean isZero() {
            return usedLimbs() == 0;
        }

        private boolean isOdd() {
            return (limbs[0] & 1) == 1;
        }

        private boolean isSum() {
            return usedLimbs() <= SUM_LIMBS;
        }

        /** Below 2^100, which ends inside a limb. */
        private boolean fitsPool() {
            return usedLimbs() <= POOL_LIMBS && limbs[POOL_LIMBS - 1] < POOL_TOP;
        }

        private int compareWith(Wide other) {
            for (int i = LIMBS - 1; i >= 0; i--) {
                if (limbs[i] != other.limbs[i]) {
                    return limbs[i] < other.limbs[i] ? -1 : 1;
                }
            }
            return 0;
        }

        private void plus(Wide other) {
            int carry = 0;
            for (int i = 0; i < LIMBS; i++) {
                int together = limbs[i] + other.limbs[i] + carry;
                limbs[i] = together & MASK;
                carry = together >>> BITS;
            }
        }

        /** The other one must not be greater. */
        private void minus(Wide other) {
            int borrow = 0;
            for (int i = 0; i < LIMBS; i++) {
                int left = limbs[i] - other.limbs[i] + borrow;
                limbs[i] = left & MASK;
                borrow = left >> BITS;
            }
        }

        private void increment() {
            scale(1, 1);
        }

        /** This times a number of 0 or more, and a further one. */
        private void scale(int by, int further) {
            long carry = further;
            for (int i = 0; i < LIMBS; i++) {
                long scaled = (long) limbs[i] * by + carry;
                limbs[i] = (int) scaled & MASK;
                carry = scaled >>> BITS;
            }
        }

        /** This by a number of 1 .. 65535, DOWN: what is left over. */
        private int shrink(int by) {
            if (by <= 0) {
                return 0;
            }
            long left = 0;
            for (int i = usedLimbs() - 1; i >= 0; i--) {
                left = left << BITS | limbs[i];
                limbs[i] = (int) (left / by);
                left = left % by;
            }
            return (int) left;
        }

        /** Neither factor may be this one, which is written while they are read. */
        private void product(Wide a, Wide b) {
            clear();
            int aLimbs = a.usedLimbs();
            int bLimbs = b.usedLimbs();
            for (int i = 0; i < aLimbs; i++) {
                long carry = 0;
                for (int j = 0; j <= bLimbs && i + j < LIMBS; j++) {
                    long limb = (long) a.limbs[i] * b.limbAt(j) + limbs[i + j] + carry;
                    limbs[i + j] = (int) limb & MASK;
                    carry = limb >>> BITS;
                }
            }
        }
    }

    /** Where numbers are worked on: what is above the line by what is below it. */
    private static final class Desk {
        private static final int MOST_GUESSES = 64;

        private final Wide above = new Wide();
        private final Wide below = new Wide();
        private final Wide quotient = new Wide();
        private final Wide rest = new Wide();
        private final Wide divisor = new Wide();
        private final Wide spare = new Wide();
        private final Wide first = new Wide();
        private final Wide second = new Wide();

        /** What is above, 20 limbs at most, by what is below (not 0), DOWN, and the rest. */
        private void split() {
            quotient.clear();
            rest.copy(above);
            int n = below.usedLimbs();
            if (n == 0) {
                return;
            }
            // A divisor whose highest bit is set makes each guess at most one too high.
            int factor = Wide.BASE / (below.limbs[n - 1] + 1);
            divisor.copy(below);
            divisor.scale(factor, 0);
            rest.scale(factor, 0);
            for (int j = Math.min(rest.usedLimbs(), Wide.LIMBS - 1) - n; j >= 0; j--) {
                quotient.limbs[j] = nextLimb(j, n);
            }
            rest.shrink(factor);
        }

        private int nextLimb(int j, int n) {
            long head = (long) rest.limbAt(j + n) << 32 | (long) rest.limbAt(j + n - 1) << 16 | rest.limbAt(j + n - 2);
            long lead = (long) divisor.limbAt(n - 1) << 16 | divisor.limbAt(n - 2);
            if (lead == 0) {
                return 0;
            }
            int guess = (int) Math.min(head / lead, Wide.MASK);
            if (takeFromRest(guess, j, n) < 0) {
                guess--;
                takeFromRest(-1, j, n);
            }
            return guess;
        }

        /** The rest, from limb j on, less so many divisors: below 0 if that was too much. */
        private int takeFromRest(int many, int j, int n) {
            long borrow = 0;
            for (int i = 0; i < n && i + j < Wide.LIMBS; i++) {
                long left = rest.limbs[i + j] - (long) many * divisor.limbs[i] + borrow;
                rest.limbs[i + j] = (int) left & Wide.MASK;
                borrow = left >> Wide.BITS;
            }
            if (j + n >= Wide.LIMBS) {
                return 0;
            }
            long left = rest.limbs[j + n] + borrow;
            rest.limbs[j + n] = (int) left & Wide.MASK;
            return left < 0 ? -1 : 0;
        }

        /** The quotient of the latest split, rounded by a WAY. */
        private void settle(int way) {
            if (goesUp(way)) {
                quotient.increment();
            }
        }

        private boolean goesUp(int way) {
            if (way == DOWN || rest.isZero()) {
                return false;
            }
            if (way == UP) {
                return true;
            }
            spare.copy(rest);
            spare.plus(rest);
            int half = spare.compareWith(below);
            if (half != 0) {
                return half > 0;
            }
            return way == HALF_UP || way == HALF_EVEN && quotient.isOdd();
        }

        /** The quotient becomes a b by c (not 0), DOWN. */
        private void proportion(Wide a, Wide b, Wide c) {
            above.product(a, b);
            below.copy(c);
            split();
        }

        /** First becomes the root of a b, DOWN, by Newton's way from a number not below it. */
        private void rootOfProduct(Wide a, Wide b) {
            above.product(a, b);
            first.setLong(1);
            for (int half = above.usedLimbs(); half > 0; half--) {
                first.scale(256, 0);
            }
            for (int guess = 0; guess < MOST_GUESSES; guess++) {
                below.copy(first);
                split();
                quotient.plus(first);
                quotient.shrink(2);
                if (quotient.compareWith(first) >= 0) {
                    return;
                }
                first.copy(quotient);
            }
        }

        private boolean bothFitPool(Wide a, Wide b) {
            spare.copy(a);
            spare.plus(b);
            return spare.fitsPool();
        }
    }

    private static final class Pool {
        private final Wide[] sides = {new Wide(), new Wide()};
        private final Wide parts = new Wide();
        private int p = 0;
        private int q = 1;

        private boolean isOpen() {
            return !parts.isZero();
        }

        private void copy(Pool from) {
            sides[0].copy(from.sides[0]);
            sides[1].copy(from.sides[1]);
            parts.copy(from.parts);
            p = from.p;
            q = from.q;
        }

        private void startAnew(int newP, int newQ) {
            sides[0].clear();
            sides[1].clear();
            parts.clear();
            p = newP;
            q = newQ;
        }

        /** The new PARTS come to the desk's first. */
        private int joinWith(Wide d, Wide e, Desk desk) {
            if (!desk.bothFitPool(sides[0], d) || !desk.bothFitPool(sides[1], e)) {
                return OVER;
            }
            if (isOpen()) {
                findNewParts(d, e, desk);
            } else {
                desk.rootOfProduct(d, e);
            }
            if (!desk.bothFitPool(parts, desk.first)) {
                return OVER;
            }
            if (desk.first.isZero()) {
                return NONE;
            }
            sides[0].plus(d);
            sides[1].plus(e);
            parts.plus(desk.first);
            return FINE;
        }

        private void findNewParts(Wide d, Wide e, Desk desk) {
            desk.proportion(d, parts, sides[0]);
            desk.first.copy(desk.quotient);
            desk.proportion(e, parts, sides[1]);
            if (desk.quotient.compareWith(desk.first) < 0) {
                desk.first.copy(desk.quotient);
            }
        }

        /** What comes out of side 0 and side 1 comes to the desk's first and second. */
        private int leaveWith(Wide s, Desk desk) {
            if (s.compareWith(parts) > 0) {
                return LESS;
            }
            if (s.isZero()) {
                return NONE;
            }
            desk.proportion(sides[0], s, parts);
            desk.first.copy(desk.quotient);
            desk.proportion(sides[1], s, parts);
            desk.second.copy(desk.quotient);
            sides[0].minus(desk.first);
            sides[1].minus(desk.second);
            parts.minus(s);
            return FINE;
        }

        /** What is GOT comes to the desk's first. */
        private int swapGiven(int side, Wide d, Desk desk) {
            Wide x = sides[side];
            Wide y = sides[1 - side];
            if (!desk.bothFitPool(x, d)) {
                return OVER;
            }
            if (!isOpen()) {
                return NONE;
            }
            desk.first.copy(d);
            desk.first.scale(q - p, 0);
            desk.above.product(y, desk.first);
            desk.below.copy(x);
            desk.below.scale(q, 0);
            desk.below.plus(desk.first);
            desk.split();
            desk.first.copy(desk.quotient);
            if (desk.first.isZero()) {
                return NONE;
            }
            x.plus(d);
            y.minus(desk.first);
            return FINE;
        }

        /** What is to be given comes to the desk's first. */
        private int swapAsked(int side, Wide e, Desk desk) {
            Wide x = sides[side];
            Wide y = sides[1 - side];
            if (e.compareWith(y) >= 0) {
                return LESS;
            }
            desk.first.copy(x);
            desk.first.scale(q, 0);
            desk.above.product(desk.first, e);
            desk.below.copy(y);
            desk.below.minus(e);
            desk.below.scale(q - p, 0);
            desk.split();
            desk.settle(UP);
            desk.first.copy(desk.quotient);
            if (!desk.bothFitPool(x, desk.first)) {
                return OVER;
            }
            if (e.isZero()) {
                return NONE;
            }
            x.plus(desk.first);
            y.minus(e);
            return FINE;
        }
    }

    /** All that a ROW OF ACTS may have to put back. */
    private static final class Ledger {
        private final Wide[] sums = new Wide[REGISTERS];
        private final Pool[] pools = new Pool[POOLS];

        private Ledger() {
            for (int r = 0; r < REGISTERS; r++) {
                sums[r] = new Wide();
            }
            for (int pool = 0; pool < POOLS; pool++) {
                pools[pool] = new Pool();
            }
        }

        private void copy(Ledger from) {
            for (int r = 0; r < REGISTERS; r++) {
                sums[r].copy(from.sums[r]);
            }
            for (int pool = 0; pool < POOLS; pool++) {
                pools[pool].copy(from.pools[pool]);
            }
        }
    }

    /** The figures of a SUM in tens, the lowest first, and OUT. A SUM has 78 at most. */
    private static final class Decimal {
        private static final int MOST_FIGURES = 80;
        private static final int MOST_BYTES = 120;

        private final int[] figures = new int[MOST_FIGURES];
        private final int[] text = new int[MOST_BYTES];
        private final Wide rest = new Wide();
        private int count = 1;
        private int length = 0;

        private void spell(Wide sum) {
            rest.copy(sum);
            for (int k = 0; k < MOST_FIGURES; k += 4) {
                int four = rest.shrink(10000);
                for (int i = 0; i < 4; i++) {
                    figures[k + i] = four % 10;
                    four /= 10;
                }
            }
            count = MOST_FIGURES;
            while (count > 1 && figures[count - 1] == 0) {
                count--;
            }
        }

        private void write(int behindPoint) {
            length = 0;
            for (int i = Math.max(count - 1, behindPoint); i >= 0; i--) {
                append('0' + figures[i]);
                if (i > behindPoint && (i - behindPoint) % 3 == 0) {
                    append(',');
                } else if (i > 0 && i == behindPoint) {
                    append('.');
                }
            }
        }

        private void append(int c) {
            if (length < MOST_BYTES) {
                text[length] = c;
                length++;
            }
        }
    }

    /** THE TAPE, and how far its text has been looked at. */
    private static final class Tape {
        private static final int MOST_BYTES = 120;

        private final int[] bytes = new int[MOST_BYTES];
        private int length = 0;
        /** Figures since the text's begin, or since the latest comma. */
        private int group = 0;
        private boolean hasComma = false;
        private boolean isZeroAlone = false;
        private boolean isPastPoint = false;
        private int behind = 0;

        private boolean isFull() {
            return length >= MOST_BYTES;
        }

        private void append(int c) {
            if (!isFull()) {
                bytes[length] = c;
                length++;
            }
        }

        private static boolean isFigure(int c) {
            return c >= '0' && c <= '9';
        }

        /** The place of FAULT 1; NONE if the text is whole. */
        private int firstFault(int behindPoint) {
            group = 0;
            hasComma = false;
            isZeroAlone = false;
            isPastPoint = false;
            behind = 0;
            for (int i = 0; i < length; i++) {
                if (!canStand(bytes[i], behindPoint)) {
                    return i;
                }
            }
            boolean isWhole = behindPoint == 0 ? isAheadWhole() : isPastPoint && behind == behindPoint;
            return isWhole ? NONE : length;
        }

        private boolean canStand(int c, int behindPoint) {
            if (isPastPoint) {
                behind++;
                return isFigure(c) && behind <= behindPoint;
            }
            if (isFigure(c)) {
                return canFigureStand(c);
            }
            if (c == ',') {
                return canCommaStand();
            }
            isPastPoint = true;
            return c == '.' && behindPoint > 0 && isAheadWhole();
        }

        private boolean canFigureStand(int c) {
            if (isZeroAlone || hasComma && group == 3) {
                return false;
            }
            isZeroAlone = c == '0' && group == 0 && !hasComma;
            group++;
            return true;
        }

        private boolean canCommaStand() {
            if (isZeroAlone || group == 0 || group > 3 || hasComma && group != 3) {
                return false;
            }
            hasComma = true;
            group = 0;
            return true;
        }

        private boolean isAheadWhole() {
            return hasComma ? group == 3 : group > 0;
        }

        /** The text's SUM; false as soon as it is not below 2^256, when no more fits here. */
        private boolean countTo(Wide sum) {
            sum.clear();
            for (int i = 0; i < length; i++) {
                if (isFigure(bytes[i])) {
                    sum.scale(10, bytes[i] - '0');
                }
                if (!sum.isSum()) {
                    return false;
                }
            }
            return true;
        }
    }
}
