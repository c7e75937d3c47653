import java.math.BigInteger;
import java.util.Locale;

/** For each promise of the document: ordinary inputs, the edges it names, and wrong inputs. */
public final class PromiseTests {
    private interface Call {
        long answer();
    }

    private static final BigInteger ONE = BigInteger.ONE;
    private static final BigInteger MOST = ONE.shiftLeft(256).subtract(ONE);
    private static final BigInteger POOL_MOST = ONE.shiftLeft(100).subtract(ONE);
    private static final int BAD = -1;
    private static final int OVER = -2;
    private static final int LESS = -3;
    private static final int NONE = -4;
    private static final String ARITHMETIC = "throws.ArithmeticException";
    private static final String INDEX = "throws.ArrayIndexOutOfBoundsException";
    private static final int[] NO_REGISTERS = {-1, 16, Integer.MIN_VALUE, Integer.MAX_VALUE};
    private static final int[] NO_POOLS = {-1, 4, Integer.MIN_VALUE, Integer.MAX_VALUE};

    private static int promise = 0;
    private static int checks = 0;
    private static int wrong = 0;

    private static void due(String what, Object got, Object want) {
        checks++;
        if (!got.toString().equals(want.toString())) {
            wrong++;
            System.out.println("promise " + promise + ": " + what + " answered " + got + ", due is " + want);
        }
    }

    private static void due(String what, Call call, Object want) {
        Object got;
        try {
            got = call.answer();
        } catch (RuntimeException e) {
            got = "throws." + e.getClass().getSimpleName();
        }
        due(what, got, want);
    }

    private static BigInteger big(String text) {
        return new BigInteger(text);
    }

    private static BigInteger power(int base, int exponent) {
        return BigInteger.valueOf(base).pow(exponent);
    }

    private static void set(ExactMoney x, int r, BigInteger sum) {
        x.put(r, 0);
        for (int i = 7; i >= 0; i--) {
            x.more(r, sum.shiftRight(32 * i).intValue());
        }
    }

    private static void set(ExactMoney x, int r, long sum) {
        x.put(r, sum);
    }

    private static BigInteger sum(ExactMoney x, int r) {
        BigInteger sum = BigInteger.ZERO;
        for (int i = 7; i >= 0; i--) {
            sum = sum.shiftLeft(32).add(BigInteger.valueOf(x.limb(r, i)));
        }
        return sum;
    }

    private static String pool(ExactMoney x, int pool) {
        x.see(pool, 0, 15);
        String told = sum(x, 15) + " ";
        x.see(pool, 1, 15);
        told += sum(x, 15) + " ";
        x.see(pool, 2, 15);
        return told + sum(x, 15);
    }

    private static void feed(ExactMoney x, String text) {
        for (int i = 0; i < text.length(); i++) {
            x.feed(text.charAt(i));
        }
    }

    private static String printed(ExactMoney x, int r) {
        int length = x.print(r);
        StringBuilder text = new StringBuilder();
        for (int i = 0; i < length; i++) {
            text.append((char) x.out(i));
        }
        return text.toString();
    }

    private static String read(ExactMoney x, String text) {
        feed(x, text);
        return x.read(0) + " at " + x.place();
    }

    private static ExactMoney openPool(long side0, long side1, int p, int q) {
        ExactMoney x = new ExactMoney();
        x.fee(0, p, q);
        x.put(0, side0);
        x.put(1, side1);
        x.join(0, 0, 1, 2);
        return x;
    }

    private static void promise1() {
        ExactMoney x = new ExactMoney();
        for (int r = 0; r < 16; r++) {
            due("a new SUM " + r, sum(x, r), 0);
        }
        for (int p = 0; p < 4; p++) {
            due("a new pool " + p, pool(x, p), "0 0 0");
            due("not OPEN", x.fee(p, 0, 1), 0);
        }
        due("UNIT", x.unit(2), 2);
        due("the ROW", x.done(), 0);
        due("tries()", x.tries(), 0);
        due("why()", x.why(), 0);
        due("place()", x.place(), NONE);
        due("OUT is empty", () -> x.out(0), INDEX);
        due("THE TAPE is empty", x.feed('1'), 1);
        due("all WEIGHTS are 0", x.share(0, 0, 12), NONE);
    }

    private static void theFirstFeeIsNoneOfOne() {
        ExactMoney x = new ExactMoney();
        set(x, 0, 1000);
        due("join", x.join(3, 0, 0, 1), 1);
        due("give", x.give(3, 0, 0, 1), 1);
        due("got without a FEE", sum(x, 1), 500);
    }

    private static void promise2() {
        ExactMoney x = new ExactMoney();
        for (int r : new int[] {0, 7, 15}) {
            due("put", x.put(r, Long.MAX_VALUE), 1);
            due("its SUM", sum(x, r), Long.MAX_VALUE);
            due("put -1", x.put(r, -1), BAD);
            due("put least", x.put(r, Long.MIN_VALUE), BAD);
            due("the SUM stays", sum(x, r), Long.MAX_VALUE);
        }
        set(x, 7, MOST);
        due("put 5 over a wide SUM", x.put(7, 5), 1);
        due("nothing is left of it", sum(x, 7), 5);
        due("put 0", x.put(7, 0), 1);
        due("0", sum(x, 7), 0);
        for (int r : NO_REGISTERS) {
            due("put(" + r + ", 1)", x.put(r, 1), BAD);
        }
    }

    private static void promise3() {
        ExactMoney x = new ExactMoney();
        due("more on 0", x.more(0, 7), 1);
        due("7", sum(x, 0), 7);
        due("more -1", x.more(0, -1), 1);
        due("32 bits without a sign", sum(x, 0), 7L * 4294967296L + 4294967295L);
        due("more least", x.more(0, Integer.MIN_VALUE), 1);
        due("three limbs", sum(x, 0), big("34359738367").shiftLeft(32).add(ONE.shiftLeft(31)));
        set(x, 1, ONE.shiftLeft(224).subtract(ONE));
        due("the last that fits", x.more(1, -1), 1);
        due("the greatest SUM", sum(x, 1), MOST);
        due("more on it", x.more(1, 0), OVER);
        due("it stays", sum(x, 1), MOST);
        set(x, 1, ONE.shiftLeft(224));
        due("the first that does not fit", x.more(1, 0), OVER);
        due("it stays", sum(x, 1), ONE.shiftLeft(224));
        for (int r : NO_REGISTERS) {
            due("more(" + r + ", 1)", x.more(r, 1), BAD);
        }
    }

    private static void promise4() {
        ExactMoney x = new ExactMoney();
        x.put(15, 0);
        for (int i = 7; i >= 0; i--) {
            x.more(15, -1 - i);
        }
        for (int i = 0; i < 8; i++) {
            due("limb(15, " + i + ")", x.limb(15, i), 4294967295L - i);
        }
        for (int i : new int[] {-1, 8, Integer.MIN_VALUE, Integer.MAX_VALUE}) {
            due("limb(15, " + i + ")", x.limb(15, i), -1);
        }
        for (int r : NO_REGISTERS) {
            due("limb(" + r + ", 0)", x.limb(r, 0), -1);
        }
    }

    private static void promise5() {
        ExactMoney x = new ExactMoney();
        set(x, 0, MOST.subtract(ONE));
        set(x, 1, 1);
        due("add", x.add(2, 0, 1), 1);
        due("the greatest SUM", sum(x, 2), MOST);
        due("one more", x.add(2, 2, 1), OVER);
        due("it stays", sum(x, 2), MOST);
        set(x, 3, ONE.shiftLeft(255));
        due("twice 2^255", x.add(3, 3, 3), OVER);
        set(x, 3, 21);
        due("a REGISTER with itself", x.add(3, 3, 3), 1);
        due("twice", sum(x, 3), 42);
        for (int r : NO_REGISTERS) {
            due("add r", x.add(r, 0, 2), BAD);
            due("add a", x.add(0, r, 2), BAD);
            due("add b", x.add(0, 2, r), BAD);
        }
        due("it stays", sum(x, 0), MOST.subtract(ONE));
    }

    private static void promise6() {
        ExactMoney x = new ExactMoney();
        set(x, 0, ONE.shiftLeft(255));
        set(x, 1, 1);
        due("take", x.take(2, 0, 1), 1);
        due("borrowed through all limbs", sum(x, 2), ONE.shiftLeft(255).subtract(ONE));
        due("more than there is", x.take(2, 1, 0), LESS);
        due("it stays", sum(x, 2), ONE.shiftLeft(255).subtract(ONE));
        due("from itself", x.take(0, 0, 0), 1);
        due("0", sum(x, 0), 0);
        due("1 from 0", x.take(0, 0, 1), LESS);
        for (int r : NO_REGISTERS) {
            due("take r", x.take(r, 0, 1), BAD);
            due("take a", x.take(0, r, 1), BAD);
            due("take b", x.take(0, 1, r), BAD);
        }
    }

    private static void rounded(long sum, long above, long below, int[] byWays) {
        for (int way = 0; way < 5; way++) {
            int w = way;
            ExactMoney x = new ExactMoney();
            set(x, 0, sum);
            due("times", () -> x.times(1, 0, above, below, w), 1);
            due(sum + " times " + above + " by " + below + " way " + way, sum(x, 1), byWays[way]);
        }
    }

    private static void promise7() {
        rounded(7, 1, 2, new int[] {3, 4, 4, 3, 4});
        rounded(5, 1, 2, new int[] {2, 3, 3, 2, 2});
        rounded(1, 1, 3, new int[] {0, 1, 0, 0, 0});
        rounded(2, 1, 3, new int[] {0, 1, 1, 1, 1});
        rounded(6, 1, 3, new int[] {2, 2, 2, 2, 2});
        rounded(0, 5, 3, new int[] {0, 0, 0, 0, 0});
        rounded(9, 0, 3, new int[] {0, 0, 0, 0, 0});
        rounded(1, Long.MAX_VALUE - 1, Long.MAX_VALUE, new int[] {0, 1, 1, 1, 1});
        rounded(1, Long.MAX_VALUE / 2, Long.MAX_VALUE, new int[] {0, 1, 0, 0, 0});
        ExactMoney x = new ExactMoney();
        set(x, 0, MOST);
        due("through 319 bits", () -> x.times(1, 0, Long.MAX_VALUE, Long.MAX_VALUE, 1), 1);
        due("and back", sum(x, 1), MOST);
        due("over", () -> x.times(1, 0, Long.MAX_VALUE, Long.MAX_VALUE - 1, 0), OVER);
        due("it stays", sum(x, 1), MOST);
        set(x, 0, MOST.divide(BigInteger.valueOf(3)).multiply(BigInteger.TWO));
        due("3 / 2 of it", () -> x.times(2, 0, 3, 2, 0), 1);
        due("the greatest", sum(x, 2), MOST);
        // 7 / 5 of this one is 3 / 5 below 2^256.
        set(x, 4, ONE.shiftLeft(256).multiply(BigInteger.valueOf(5)).subtract(BigInteger.valueOf(3)).divide(BigInteger.valueOf(7)));
        due("just below 2^256, DOWN", () -> x.times(5, 4, 7, 5, 0), 1);
        due("the greatest", sum(x, 5), MOST);
        due("just below 2^256, NEAREST", () -> x.times(5, 4, 7, 5, 2), 1);
        due("just below 2^256, UP", () -> x.times(6, 4, 7, 5, 1), OVER);
        due("it stays", sum(x, 6), 0);
        timesRefuses(x);
    }

    private static void timesRefuses(ExactMoney x) {
        set(x, 0, 9);
        set(x, 1, 4);
        due("by 0", () -> x.times(1, 0, 1, 0, 0), ARITHMETIC);
        due("0 by 0", () -> x.times(1, 0, 0, 0, 0), ARITHMETIC);
        due("0 times 1 by 0", () -> x.times(1, 15, 1, 0, 0), ARITHMETIC);
        due("above -1", () -> x.times(1, 0, -1, 0, 0), BAD);
        due("below -1", () -> x.times(1, 0, 1, -1, 0), BAD);
        due("least", () -> x.times(1, 0, Long.MIN_VALUE, Long.MIN_VALUE, 0), BAD);
        for (int way : new int[] {-1, 5, Integer.MIN_VALUE, Integer.MAX_VALUE}) {
            due("way " + way, () -> x.times(1, 0, 1, 1, way), BAD);
            due("way " + way + " by 0", () -> x.times(1, 0, 1, 0, way), BAD);
        }
        for (int r : NO_REGISTERS) {
            due("times r", () -> x.times(r, 0, 1, 0, 0), BAD);
            due("times a", () -> x.times(0, r, 1, 0, 0), BAD);
        }
        due("it stays", sum(x, 1), 4);
    }

    private static void promise8() {
        long[][] rows = {
            {0, 0, 0, 0, 0, 0, 0}, {17, 0, 17, 17, 17, 17, 17}, {15, 1, 10, 20, 20, 10, 20},
            {25, 1, 20, 30, 30, 20, 20}, {14, 1, 10, 20, 10, 10, 10}, {16, 1, 10, 20, 20, 20, 20},
            {30, 1, 30, 30, 30, 30, 30}, {150, 2, 100, 200, 200, 100, 200}, {1, 3, 0, 1000, 0, 0, 0},
            {500, 3, 0, 1000, 1000, 0, 0}, {501, 3, 0, 1000, 1000, 1000, 1000}};
        for (long[] row : rows) {
            for (int way = 0; way < 5; way++) {
                ExactMoney x = new ExactMoney();
                set(x, 0, row[0]);
                due("round", x.round(1, 0, (int) row[1], way), 1);
                due(row[0] + " to 10^" + row[1] + " way " + way, sum(x, 1), row[2 + way]);
            }
        }
        ExactMoney x = new ExactMoney();
        set(x, 0, MOST);
        BigInteger step = power(10, 18);
        due("round down", x.round(1, 0, 18, 0), 1);
        due("the greatest multiple", sum(x, 1), MOST.divide(step).multiply(step));
        due("round up", x.round(2, 0, 18, 1), OVER);
        due("it stays", sum(x, 2), 0);
        due("rounded to itself", x.round(0, 0, 0, 1), 1);
        due("it stays", sum(x, 0), MOST);
        due("on its own place", x.round(0, 0, 1, 0), 1);
        due("less its last figure", sum(x, 0), MOST.divide(BigInteger.TEN).multiply(BigInteger.TEN));
        for (int bad : new int[] {-1, 19, Integer.MIN_VALUE, Integer.MAX_VALUE}) {
            due("u " + bad, x.round(1, 0, bad, 0), BAD);
        }
        for (int bad : new int[] {-1, 5, Integer.MIN_VALUE, Integer.MAX_VALUE}) {
            due("way " + bad, x.round(1, 0, 0, bad), BAD);
        }
        for (int bad : NO_REGISTERS) {
            due("round r", x.round(bad, 0, 0, 0), BAD);
            due("round a", x.round(0, bad, 0, 0), BAD);
        }
    }

    private static void divided(BigInteger a, BigInteger b) {
        ExactMoney x = new ExactMoney();
        set(x, 0, a);
        set(x, 1, b);
        due("divide", () -> x.divide(2, 0, 1), 1);
        due(a + " by " + b, sum(x, 2), a.divide(b));
    }

    private static void promise9() {
        BigInteger[] sums = {
            MOST, ONE, power(2, 255), power(2, 128), power(2, 128).subtract(ONE), power(10, 77), power(2, 240),
            power(2, 16), power(2, 16).subtract(ONE), power(2, 255).add(ONE), power(3, 100),
            power(2, 192).subtract(ONE), power(2, 255).subtract(ONE)};
        for (BigInteger a : sums) {
            for (BigInteger b : sums) {
                divided(a, b);
            }
        }
        String[][] wronglyGuessed = {{"280010000", "280010001"}, {"7fffffff8001", "1ffffffff"}, {"80017fffffff", "10000ffff"},
            {"7ffffffd0001", "8000ffff"}, {"7ffefffb0003", "8000ffff"}, {"7ffffffffffffffd00000001", "80000000ffffffff"}};
        for (String[] pair : wronglyGuessed) {
            divided(new BigInteger(pair[0], 16), new BigInteger(pair[1], 16));
        }
        ExactMoney x = new ExactMoney();
        set(x, 0, MOST);
        set(x, 1, 1);
        set(x, 3, 0);
        due("0 by 1", () -> x.divide(2, 3, 1), 1);
        due("0", sum(x, 2), 0);
        set(x, 2, 8);
        due("by 0", () -> x.divide(2, 0, 3), ARITHMETIC);
        due("0 by 0", () -> x.divide(2, 3, 3), ARITHMETIC);
        for (int r : NO_REGISTERS) {
            due("divide r", () -> x.divide(r, 0, 3), BAD);
            due("divide a", () -> x.divide(2, r, 3), BAD);
            due("divide b", () -> x.divide(2, 0, r), BAD);
        }
        due("it stays", sum(x, 2), 8);
        due("by itself, on its own place", () -> x.divide(2, 2, 2), 1);
        due("1", sum(x, 2), 1);
    }

    private static void promise10() {
        ExactMoney x = new ExactMoney();
        set(x, 0, power(2, 224));
        set(x, 1, power(2, 224).subtract(ONE));
        set(x, 2, power(2, 224));
        due("greater", x.order(0, 1), 2);
        due("less", x.order(1, 0), 0);
        due("alike", x.order(0, 2), 1);
        due("itself", x.order(1, 1), 1);
        for (int r : NO_REGISTERS) {
            due("order a", x.order(r, 0), BAD);
            due("order b", x.order(0, r), BAD);
        }
    }

    private static void promise11() {
        ExactMoney x = new ExactMoney();
        for (int k = 0; k < 12; k++) {
            due("weight", x.weight(k, 1000000000000L), 1);
            due("too heavy", x.weight(k, 1000000000001L), BAD);
            due("below 0", x.weight(k, -1), BAD);
        }
        set(x, 0, 24);
        due("share", x.share(0, 1, 12), 0);
        for (int k = 0; k < 12; k++) {
            due("the refused ones changed nothing", sum(x, 1 + k), 2);
        }
        due("weight 0", x.weight(3, 0), 1);
        set(x, 0, 22);
        due("share", x.share(0, 1, 12), 0);
        due("no WEIGHT, no SHARE", sum(x, 4), 0);
        for (int k : new int[] {-1, 12, Integer.MIN_VALUE, Integer.MAX_VALUE}) {
            due("weight(" + k + ", 1)", x.weight(k, 1), BAD);
        }
        due("weight(0, greatest)", x.weight(0, Long.MAX_VALUE), BAD);
        due("weight(0, least)", x.weight(0, Long.MIN_VALUE), BAD);
    }

    private static void shared(BigInteger sum, long[] weights, int units, BigInteger[] shares) {
        ExactMoney x = new ExactMoney();
        for (int k = 0; k < weights.length; k++) {
            x.weight(k, weights[k]);
        }
        // The SUM stands in the last REGISTER that a SHARE comes to, so that it is written over.
        int from = 16 - weights.length;
        set(x, 15, sum);
        due("share", x.share(15, from, weights.length), units);
        for (int k = 0; k < weights.length; k++) {
            due("share " + k + " of " + sum, sum(x, from + k), shares[k]);
        }
    }

    private static BigInteger[] bigs(long... numbers) {
        BigInteger[] bigs = new BigInteger[numbers.length];
        for (int k = 0; k < numbers.length; k++) {
            bigs[k] = BigInteger.valueOf(numbers[k]);
        }
        return bigs;
    }

    private static void promise12() {
        shared(BigInteger.valueOf(100), new long[] {1, 1, 1}, 1, bigs(34, 33, 33));
        shared(BigInteger.valueOf(9), new long[] {2, 3, 0, 2}, 2, bigs(3, 4, 0, 2));
        shared(BigInteger.valueOf(5), new long[] {0, 0, 7}, 0, bigs(0, 0, 5));
        shared(BigInteger.valueOf(11), new long[] {1, 1, 1, 1, 1, 1, 1, 1, 1, 1, 1, 1}, 11,
            bigs(1, 1, 1, 1, 1, 1, 1, 1, 1, 1, 1, 0));
        shared(BigInteger.valueOf(10), new long[] {1, 2, 4}, 2, bigs(1, 3, 6));
        shared(BigInteger.ZERO, new long[] {1, 2}, 0, bigs(0, 0));
        shared(BigInteger.valueOf(7), new long[] {1}, 0, bigs(7));
        long heavy = 1000000000000L;
        BigInteger half = ONE.shiftLeft(255);
        shared(MOST, new long[] {heavy, heavy}, 1, new BigInteger[] {half, half.subtract(ONE)});
        shared(MOST, new long[] {0, heavy}, 0, new BigInteger[] {BigInteger.ZERO, MOST});
        ExactMoney x = new ExactMoney();
        set(x, 0, 100);
        x.weight(1, 5);
        due("W is 0", x.share(0, 2, 1), NONE);
        due("the first two", x.share(0, 2, 2), 0);
        due("all to one", sum(x, 3), 100);
        due("the last REGISTERS", x.share(0, 4, 12), 0);
        due("one too far", x.share(0, 5, 12), BAD);
        due("n 0", x.share(0, 2, 0), BAD);
        due("n 13", x.share(0, 2, 13), BAD);
        due("n least", x.share(0, 2, Integer.MIN_VALUE), BAD);
        due("n greatest", x.share(0, 2, Integer.MAX_VALUE), BAD);
        for (int r : NO_REGISTERS) {
            due("share a", x.share(r, 2, 1), BAD);
            due("share from", x.share(0, r, 1), BAD);
        }
        due("BAD ahead of NONE", x.share(0, 16, 1), BAD);
        due("it stays", sum(x, 0), 100);
    }

    private static void promise13() {
        due("of 0", new ExactMoney().figures(0), 1);
        for (int n = 1; n <= 77; n++) {
            ExactMoney x = new ExactMoney();
            set(x, 0, power(10, n));
            due("of 10^" + n, x.figures(0), n + 1);
            set(x, 0, power(10, n).subtract(ONE));
            due("of 10^" + n + " - 1", x.figures(0), n);
        }
        ExactMoney x = new ExactMoney();
        set(x, 15, MOST);
        due("of the greatest", x.figures(15), 78);
        for (int r : NO_REGISTERS) {
            due("figures(" + r + ")", x.figures(r), BAD);
        }
    }

    private static void promise14() {
        ExactMoney x = new ExactMoney();
        due("of 0", () -> x.figure(0, 0), 0);
        due("0 has one", () -> x.figure(0, 1), INDEX);
        set(x, 0, MOST);
        String figures = new StringBuilder(MOST.toString()).reverse().toString();
        for (int i = 0; i < 78; i++) {
            int at = i;
            due("figure " + i, () -> x.figure(0, at), figures.charAt(i) - '0');
        }
        for (int i : new int[] {-1, 78, 80, Integer.MIN_VALUE, Integer.MAX_VALUE}) {
            due("figure " + i, () -> x.figure(0, i), INDEX);
        }
        for (int r : NO_REGISTERS) {
            due("figure(" + r + ", -1)", () -> x.figure(r, -1), BAD);
        }
    }

    private static void promise15() {
        ExactMoney x = new ExactMoney();
        due("2 at first", x.unit(12), 2);
        due("12", x.unit(0), 12);
        due("-1", x.unit(-1), BAD);
        due("13", x.unit(13), BAD);
        due("least", x.unit(Integer.MIN_VALUE), BAD);
        due("greatest", x.unit(Integer.MAX_VALUE), BAD);
        due("0 still", x.unit(5), 0);
        set(x, 0, 1);
        due("print with it", printed(x, 0), "0.00001");
    }

    private static void promise16() {
        ExactMoney x = new ExactMoney();
        due("0", printed(x, 0), "0.00");
        Object[][] rows = {
            {5L, 2, "0.05"}, {50L, 2, "0.50"}, {100L, 2, "1.00"}, {99999L, 2, "999.99"}, {100000L, 2, "1,000.00"},
            {123456789L, 2, "1,234,567.89"}, {0L, 0, "0"}, {999L, 0, "999"}, {1000L, 0, "1,000"},
            {1234567L, 0, "1,234,567"}, {123456L, 0, "123,456"}, {1L, 12, "0.000000000001"},
            {1234567890123456789L, 12, "1,234,567.890123456789"}, {12345L, 1, "1,234.5"}, {12345L, 3, "12.345"}};
        for (Object[] row : rows) {
            x.unit((Integer) row[1]);
            set(x, 3, (Long) row[0]);
            due("print of " + row[0] + " with " + row[1], printed(x, 3), row[2]);
        }
        set(x, 3, MOST);
        x.unit(0);
        due("the longest", x.print(3), 103);
        due("in full", printed(x, 3), String.format(Locale.ROOT, "%,d", MOST));
        for (int r : NO_REGISTERS) {
            due("print(" + r + ")", x.print(r), BAD);
        }
        due("OUT stays", () -> x.out(102), '5' + 0);
    }

    private static void promise17() {
        ExactMoney x = new ExactMoney();
        due("before a print", () -> x.out(0), INDEX);
        set(x, 0, 123456);
        x.print(0);
        String text = "1,234.56";
        for (int i = 0; i < text.length(); i++) {
            int at = i;
            due("out " + i, () -> x.out(at), text.charAt(i) + 0);
        }
        for (int i : new int[] {-1, 8, 120, Integer.MIN_VALUE, Integer.MAX_VALUE}) {
            due("out " + i, () -> x.out(i), INDEX);
        }
        set(x, 0, 7);
        due("OUT is what was printed", () -> x.out(7), '6' + 0);
        x.print(0);
        due("a shorter one", () -> x.out(3), '7' + 0);
        due("nothing behind it", () -> x.out(4), INDEX);
    }

    private static void promise18() {
        ExactMoney x = new ExactMoney();
        due("-1", x.feed(-1), BAD);
        due("256", x.feed(256), BAD);
        due("0", x.feed(0), 1);
        due("255", x.feed(255), 2);
        for (int n = 3; n <= 120; n++) {
            due("feed", x.feed('1'), n);
        }
        due("one too many", x.feed('1'), OVER);
        due("BAD ahead of OVER", x.feed(256), BAD);
        due("least", x.feed(Integer.MIN_VALUE), BAD);
        due("reading uses it up", x.read(0), -11);
        due("the first byte", x.place(), 0);
        due("feed", x.feed('1'), 1);
    }

    private static void promise19() {
        Object[][] rows = {
            {2, "0.00", 0L}, {2, "0.07", 7L}, {2, "7.00", 700L}, {2, "1,234.56", 123456L}, {2, "1234.56", 123456L},
            {2, "12,345,678.90", 1234567890L}, {2, "100.00", 10000L}, {2, "100,000.00", 10000000L}, {0, "0", 0L},
            {0, "9", 9L}, {0, "1,000", 1000L}, {0, "1000000", 1000000L}, {0, "10", 10L}, {12, "0.000000000001", 1L},
            {12, "1.000000000000", 1000000000000L}, {1, "1,000,000.5", 10000005L}};
        for (Object[] row : rows) {
            ExactMoney x = new ExactMoney();
            x.unit((Integer) row[0]);
            set(x, 0, 77);
            due("read of " + row[1], read(x, (String) row[1]), "1 at -4");
            due("its SUM", sum(x, 0), row[2]);
        }
        readGreatSums();
        ExactMoney x = new ExactMoney();
        set(x, 0, MOST);
        x.unit(12);
        String text = MOST.add(ONE).toString();
        due("with a point", read(x, text.substring(0, 66) + "." + text.substring(66)), "-12 at 79");
        due("it stays", sum(x, 0), MOST);
        readRefuses(x);
    }

    private static void readGreatSums() {
        ExactMoney x = new ExactMoney();
        x.unit(0);
        due("the greatest", read(x, MOST.toString()), "1 at -4");
        due("its SUM", sum(x, 0), MOST);
        due("with commas", read(x, String.format(Locale.ROOT, "%,d", MOST)), "1 at -4");
        due("its SUM", sum(x, 0), MOST);
        due("one more", read(x, MOST.add(ONE).toString()), "-12 at 78");
        due("with commas", read(x, String.format(Locale.ROOT, "%,d", MOST.add(ONE))), "-12 at 103");
        ExactMoney y = new ExactMoney();
        y.unit(0);
        due("120 figures", read(y, "9".repeat(120)), "-12 at 120");
        due("2^384", read(y, ONE.shiftLeft(384).toString()), "-12 at 116");
    }

    private static void readRefuses(ExactMoney x) {
        x.unit(0);
        set(x, 0, 77);
        feed(x, "5");
        for (int r : NO_REGISTERS) {
            due("read(" + r + ")", x.read(r), BAD);
        }
        due("place() stays", x.place(), 79);
        due("THE TAPE stays", x.feed('6'), 2);
        due("and is read", x.read(15), 1);
        due("its SUM", sum(x, 15), 56);
        due("another stays", sum(x, 0), 77);
        due("it was used up", x.read(15), -11);
        due("the SUM stays", sum(x, 15), 56);
    }

    private static void promise20() {
        ExactMoney x = new ExactMoney();
        due("before one", x.place(), NONE);
        Object[][] rows = {
            {2, "", 0}, {2, ".", 0}, {2, ",", 0}, {2, "-1.00", 0}, {2, " 1.00", 0}, {2, "1", 1}, {2, "1.", 2},
            {2, "1.0", 3}, {2, "1.000", 4}, {2, "1.00.", 4}, {2, "1.0,", 3}, {2, "1..00", 2}, {2, "00.00", 1},
            {2, "01.00", 1}, {2, "0,000.00", 1}, {2, "1,", 2}, {2, "1,.00", 2}, {2, "1,,000.00", 2}, {2, "1,2", 3},
            {2, "1,23.00", 4}, {2, "1,2345.00", 5}, {2, "1,234567.00", 5}, {2, "1,234,56.00", 8}, {2, "1234,567.00", 4},
            {2, "1234567,890.00", 7}, {2, "1,234", 5}, {2, "12,345,", 7}, {2, "a", 0}, {2, "1a", 1}, {2, "1.a0", 2},
            {2, "1.0/", 3}, {2, "1.0:", 3}, {2, "1.00 ", 4}, {0, "", 0}, {0, "0.", 1}, {0, "1.", 1}, {0, "1.0", 1},
            {0, "00", 1}, {0, "0,", 1}, {0, "1,00", 4}, {0, "1,0000", 5}, {0, "1000,", 4}, {0, "1,000.", 5},
            {0, "1,000,", 6}, {0, "1\u0000", 1}, {0, "\u00ff", 0}, {12, "1.00000000000", 13},
            {12, "1.0000000000000", 14}, {1, "1.0", NONE}, {1, "1.00", 3}};
        for (Object[] row : rows) {
            x = new ExactMoney();
            x.unit((Integer) row[0]);
            int answer = row[2].equals(NONE) ? 1 : -11;
            due("read of '" + row[1] + "' with " + row[0], read(x, (String) row[1]), answer + " at " + row[2]);
        }
        x.unit(0);
        due("FAULT 1 ahead of FAULT 2", read(x, "9".repeat(100) + "x"), "-11 at 100");
        due("a read without a FAULT", read(x, "1"), "1 at -4");
    }

    private static void promise21() {
        ExactMoney x = openPool(1000, 1000, 1, 2);
        due("give", x.give(0, 0, 0, 3), 1);
        due("half of it counts", sum(x, 3), 333);
        due("it was OPEN", x.fee(0, 999999, 1000000), 1);
        due("nothing is left", pool(x, 0), "0 0 0");
        due("it was not", x.fee(0, 0, 1), 0);
        int[][] bad = {{0, 0, 0}, {0, 1, 1}, {0, 2, 1}, {0, -1, 1}, {0, 0, 1000001}, {0, 0, -1}, {0, -2, -1},
            {0, Integer.MIN_VALUE, Integer.MAX_VALUE}, {-1, 0, 1}, {4, 0, 1}};
        ExactMoney y = openPool(1000, 1000, 0, 1);
        for (int[] row : bad) {
            due("fee " + row[0] + " " + row[1] + " " + row[2], y.fee(row[0], row[1], row[2]), BAD);
        }
        due("it stays", pool(y, 0), "1000 1000 1000");
        due("give", y.give(0, 0, 0, 3), 1);
        due("its FEE stays", sum(y, 3), 500);
        due("each POOL", y.fee(3, 0, 1000000), 0);
    }

    private static void promise22() {
        ExactMoney x = new ExactMoney();
        long[][] roots = {{1, 1, 1}, {1, 2, 1}, {1, 3, 1}, {2, 2, 2}, {3, 5, 3}, {4, 4, 4}, {1, 99, 9}, {1, 100, 10},
            {1000000, 4000000, 2000000}, {65535, 65537, 65535}, {65536, 65536, 65536}, {255, 257, 255}};
        for (long[] row : roots) {
            x.fee(1, 0, 1);
            set(x, 0, row[0]);
            set(x, 1, row[1]);
            due("join", x.join(1, 0, 1, 2), 1);
            due("root of " + row[0] + " " + row[1], sum(x, 2), row[2]);
            due("the POOL", pool(x, 1), row[0] + " " + row[1] + " " + row[2]);
        }
        x.fee(1, 0, 1);
        set(x, 0, POOL_MOST);
        due("the greatest", x.join(1, 0, 0, 2), 1);
        due("its PARTS", sum(x, 2), POOL_MOST);
        joinAnOpenPool();
        joinRefuses();
    }

    private static void joinAnOpenPool() {
        ExactMoney x = openPool(1000, 4000, 0, 1);
        set(x, 3, 10);
        set(x, 4, 39);
        due("join", x.join(0, 3, 4, 5), 1);
        due("the lesser, of side 1, DOWN", sum(x, 5), 19);
        due("both sides grow whole", pool(x, 0), "1010 4039 2019");
        set(x, 4, 4000);
        due("join", x.join(0, 3, 4, 3), 1);
        due("the lesser, of side 0, DOWN", sum(x, 3), 19);
        due("both sides grow whole", pool(x, 0), "1020 8039 2038");
    }

    private static void joinRefuses() {
        ExactMoney x = new ExactMoney();
        set(x, 0, POOL_MOST.add(ONE));
        set(x, 1, 0);
        set(x, 2, 5);
        due("side 0 of 2^100", x.join(0, 0, 2, 3), OVER);
        due("side 1 of 2^100", x.join(0, 2, 0, 3), OVER);
        due("OVER ahead of NONE", x.join(0, 0, 1, 3), OVER);
        due("no side 0", x.join(0, 1, 2, 3), NONE);
        due("no side 1", x.join(0, 2, 1, 3), NONE);
        set(x, 0, MOST);
        due("the greatest SUM", x.join(0, 0, 0, 3), OVER);
        due("nothing came of it", pool(x, 0), "0 0 0");
        set(x, 4, POOL_MOST.subtract(BigInteger.valueOf(3)));
        due("join", x.join(0, 4, 2, 3), 1);
        String was = pool(x, 0);
        set(x, 0, 4);
        due("side 0 would be 2^100", x.join(0, 0, 1, 3), OVER);
        set(x, 0, 3);
        due("one less, but no PARTS", x.join(0, 0, 1, 3), NONE);
        due("it stays", pool(x, 0), was);
        for (int r : NO_REGISTERS) {
            due("join a", x.join(0, r, 0, 0), BAD);
            due("join b", x.join(0, 0, r, 0), BAD);
            due("join r", x.join(0, 0, 0, r), BAD);
        }
        for (int p : NO_POOLS) {
            due("join pool", x.join(p, 0, 0, 0), BAD);
        }
    }

    private static void promise23() {
        ExactMoney x = openPool(1000, 3001, 0, 1);
        due("PARTS", sum(x, 2), 1732);
        set(x, 3, 500);
        due("leave", x.leave(0, 3, 4, 5), 1);
        due("of side 0, DOWN", sum(x, 4), 288);
        due("of side 1, DOWN", sum(x, 5), 866);
        due("what is left", pool(x, 0), "712 2135 1232");
        set(x, 3, 0);
        due("none", x.leave(0, 3, 4, 5), NONE);
        set(x, 3, 1233);
        due("one too many", x.leave(0, 3, 4, 5), LESS);
        due("it stays", pool(x, 0), "712 2135 1232");
        due("the REGISTERS stay", sum(x, 4) + " " + sum(x, 5), "288 866");
        set(x, 3, 1232);
        due("all, over itself", x.leave(0, 3, 3, 5), 1);
        due("all of side 0", sum(x, 3), 712);
        due("all of side 1", sum(x, 5), 2135);
        due("empty", pool(x, 0), "0 0 0");
        due("not OPEN", x.leave(0, 3, 3, 5), LESS);
        due("not OPEN, none", x.leave(0, 14, 3, 5), NONE);
        ExactMoney y = openPool(10, 40, 0, 1);
        due("a and b alike", y.leave(0, 2, 7, 7), 1);
        due("b comes last", sum(y, 7), 40);
        due("the FEE stays with an empty POOL", theFeeStays(), 333);
        for (int r : NO_REGISTERS) {
            due("leave s", x.leave(0, r, 0, 0), BAD);
            due("leave a", x.leave(0, 0, r, 0), BAD);
            due("leave b", x.leave(0, 0, 0, r), BAD);
        }
        for (int p : NO_POOLS) {
            due("leave pool", x.leave(p, 0, 0, 0), BAD);
        }
    }

    private static BigInteger theFeeStays() {
        ExactMoney x = openPool(1000, 1000, 1, 2);
        x.leave(0, 2, 3, 4);
        x.join(0, 3, 4, 2);
        x.give(0, 0, 0, 5);
        return sum(x, 5);
    }

    private static void promise24() {
        ExactMoney x = openPool(1000000, 4000000, 3, 1000);
        set(x, 3, 10000);
        due("give", x.give(0, 0, 3, 4), 1);
        due("GOT", sum(x, 4), 39486);
        due("the POOL", pool(x, 0), "1010000 3960514 2000000");
        due("the other side, over itself", x.give(0, 1, 4, 4), 1);
        due("GOT", sum(x, 4), 9940);
        due("the POOL", pool(x, 0), "1000060 4000000 2000000");
        set(x, 3, 0);
        due("nothing given", x.give(0, 0, 3, 4), NONE);
        set(x, 3, 1);
        due("too little", x.give(0, 1, 3, 4), NONE);
        due("it stays", pool(x, 0), "1000060 4000000 2000000");
        set(x, 3, POOL_MOST.subtract(BigInteger.valueOf(1000060)));
        set(x, 5, POOL_MOST.subtract(BigInteger.valueOf(1000059)));
        due("one too much", x.give(0, 0, 5, 4), OVER);
        set(x, 5, MOST);
        due("far too much", x.give(0, 0, 5, 4), OVER);
        due("it stays", pool(x, 0), "1000060 4000000 2000000");
        due("the most", x.give(0, 0, 3, 4), 1);
        due("the POOL", pool(x, 0), POOL_MOST + " 1 2000000");
        set(x, 5, 1);
        due("OVER ahead of NONE", x.give(0, 0, 5, 4), OVER);
        due("not OPEN", x.give(1, 0, 5, 4), NONE);
        set(x, 5, POOL_MOST.add(ONE));
        due("not OPEN, but OVER", x.give(1, 0, 5, 4), OVER);
        tradeRefuses((pool, side, a, r) -> x.give(pool, side, a, r));
    }

    private interface Trade {
        int answer(int pool, int side, int a, int r);
    }

    private static void tradeRefuses(Trade trade) {
        for (int r : NO_REGISTERS) {
            due("a", trade.answer(0, 0, r, 0), BAD);
            due("r", trade.answer(0, 0, 0, r), BAD);
        }
        for (int p : NO_POOLS) {
            due("pool", trade.answer(p, 0, 0, 0), BAD);
        }
        for (int side : new int[] {-1, 2, Integer.MIN_VALUE, Integer.MAX_VALUE}) {
            due("side", trade.answer(0, side, 0, 0), BAD);
        }
    }

    private static void promise25() {
        ExactMoney x = openPool(1000, 1000, 0, 1);
        set(x, 3, 500);
        due("ask", x.ask(0, 0, 3, 4), 1);
        due("to be given", sum(x, 4), 1000);
        due("the POOL", pool(x, 0), "2000 500 1000");
        set(x, 3, 1);
        due("ask on side 1, over itself", x.ask(0, 1, 3, 3), 1);
        due("UP", sum(x, 3), 1);
        due("the POOL", pool(x, 0), "1999 501 1000");
        set(x, 3, 501);
        due("all of it", x.ask(0, 0, 3, 4), LESS);
        set(x, 3, MOST);
        due("far too much", x.ask(0, 0, 3, 4), LESS);
        set(x, 3, 0);
        due("none", x.ask(0, 0, 3, 4), NONE);
        due("not OPEN, none", x.ask(1, 0, 3, 4), LESS);
        set(x, 3, 5);
        due("not OPEN", x.ask(1, 0, 3, 4), LESS);
        due("it stays", pool(x, 0), "1999 501 1000");
        ExactMoney y = openPool(1000000, 4000000, 3, 1000);
        set(y, 3, 39486);
        due("ask with a FEE", y.ask(0, 0, 3, 4), 1);
        due("to be given", sum(y, 4), 10000);
        askIsOver();
        tradeRefuses((pool, side, a, r) -> x.ask(pool, side, a, r));
    }

    private static void askIsOver() {
        ExactMoney x = new ExactMoney();
        set(x, 0, ONE.shiftLeft(99));
        set(x, 1, 4);
        due("join", x.join(0, 0, 1, 2), 1);
        set(x, 3, 2);
        due("twice 2^99", x.ask(0, 0, 3, 4), OVER);
        String was = ONE.shiftLeft(99) + " 4 " + ONE.shiftLeft(99).multiply(BigInteger.valueOf(4)).sqrt();
        due("it stays", pool(x, 0), was);
        set(x, 3, 4);
        due("all of it", x.ask(0, 0, 3, 4), LESS);
        set(x, 3, 1);
        due("one of it", x.ask(0, 0, 3, 4), 1);
        due("a third, UP", sum(x, 4), ONE.shiftLeft(99).divide(BigInteger.valueOf(3)).add(ONE));
    }

    private static void promise26() {
        ExactMoney x = openPool(1000, 4000, 0, 1);
        due("side 0", x.see(0, 0, 5), 1);
        due("its SUM", sum(x, 5), 1000);
        due("side 1", x.see(0, 1, 5), 1);
        due("its SUM", sum(x, 5), 4000);
        due("PARTS", x.see(0, 2, 5), 1);
        due("its SUM", sum(x, 5), 2000);
        x.add(5, 5, 5);
        due("a copy", pool(x, 0), "1000 4000 2000");
        due("another", x.see(3, 0, 5), 1);
        due("its SUM", sum(x, 5), 0);
        for (int what : new int[] {-1, 3, Integer.MIN_VALUE, Integer.MAX_VALUE}) {
            due("see what", x.see(0, what, 0), BAD);
        }
        for (int p : NO_POOLS) {
            due("see pool", x.see(p, 0, 0), BAD);
        }
        for (int r : NO_REGISTERS) {
            due("see r", x.see(0, 0, r), BAD);
        }
    }

    private static void promise27() {
        ExactMoney x = new ExactMoney();
        set(x, 0, 1);
        for (int act : new int[] {-1, 5, Integer.MIN_VALUE, Integer.MAX_VALUE}) {
            due("act " + act, x.later(act, 0, 0, 0), BAD);
        }
        due("bad numbers are looked at later", x.later(0, -1, 16, 99), 1);
        due("done", x.done(), -10);
        for (int n = 1; n <= 12; n++) {
            due("later", x.later(0, 0, 0, 0), n);
        }
        due("one too many", x.later(0, 0, 0, 0), OVER);
        due("BAD ahead of OVER", x.later(5, 0, 0, 0), BAD);
        due("nothing was done yet", sum(x, 0), 1);
        due("done", x.done(), 12);
        due("each was done", sum(x, 0), 4096);
        due("the ROW is empty", x.later(0, 0, 0, 0), 1);
    }

    private static void promise28() {
        ExactMoney x = openPool(1000, 1000, 0, 1);
        set(x, 3, 100);
        set(x, 4, 7);
        x.later(0, 5, 3, 4);
        x.later(1, 6, 3, 4);
        x.later(2, 8, 3, 0);
        x.later(2, 9, 3, 0);
        x.later(3, 10, 4, 5);
        x.later(4, 11, 3, 4);
        due("done", x.done(), 6);
        due("add", sum(x, 5), 107);
        due("take", sum(x, 6), 93);
        due("give on side 0", sum(x, 8), 90);
        due("give on side 1", sum(x, 9), 108);
        due("times 5 by 2, a half up", sum(x, 10), 18);
        due("divide", sum(x, 11), 14);
        due("the POOL", pool(x, 0), "992 1010 1000");
        due("an empty ROW", x.done(), 0);
        failingRows();
    }

    private static void failingRows() {
        int[][] last = {{1, 0, 4, 3, LESS}, {0, 0, 0, 16, BAD}, {0, 2, 12, 12, OVER}, {2, 2, 3, 1, NONE},
            {2, 3, 12, 0, OVER}, {2, 3, 3, 4, BAD}, {3, 2, 12, 3, OVER}, {3, 2, 3, -1, BAD}, {4, 2, 3, 13, 1},
            {4, 16, 3, 13, BAD}, {2, -1, 3, 0, BAD}, {4, 2, 3, -1, BAD}, {3, 2, 3, Integer.MIN_VALUE, BAD}};
        for (int[] act : last) {
            ExactMoney x = openPool(1000, 1000, 0, 1);
            set(x, 3, 100);
            set(x, 4, 7);
            set(x, 12, MOST);
            x.later(2, 5, 3, 0);
            x.later(0, 3, 3, 3);
            x.later(act[0], act[1], act[2], act[3]);
            x.later(0, 4, 4, 4);
            String what = "act " + act[0] + " " + act[1] + " " + act[2] + " " + act[3];
            due(what, x.done(), -12);
            due(what + " why", x.why(), act[4]);
            due(what + " tries", x.tries(), 3);
            due("GOT is put back", sum(x, 5), 0);
            due("what was added is put back", sum(x, 3), 100);
            due("the POOL is put back", pool(x, 0), "1000 1000 1000");
            due("the ROW is empty", x.done(), 0);
            due("what came behind was not done", sum(x, 4), 7);
            due("why() of the latest", x.why(), 0);
        }
    }

    private static void promise29() {
        ExactMoney x = new ExactMoney();
        x.put(0, 1);
        x.later(0, 1, 0, 0);
        x.later(0, 1, 1, 1);
        due("not begun yet", x.tries(), 0);
        x.done();
        due("two were begun", x.tries(), 2);
        x.later(0, 1, 0, 0);
        x.later(1, 1, 15, 0);
        x.later(0, 1, 0, 0);
        x.done();
        due("two more, one refused, one never begun", x.tries(), 4);
        x.done();
        due("an empty ROW", x.tries(), 4);
        x.later(4, 1, 0, 15);
        x.done();
        due("one that threw", x.tries(), 5);
        x.add(1, 1, 1);
        due("a call is no act of the ROW", x.tries(), 5);
    }

    private static void promise30() {
        ExactMoney x = new ExactMoney();
        due("before one", x.why(), 0);
        x.put(0, 1);
        x.later(1, 1, 15, 0);
        due("until it is done", x.why(), 0);
        x.done();
        due("LESS", x.why(), LESS);
        x.take(1, 99, 0);
        x.later(0, 1, 0, 0);
        due("until the next", x.why(), LESS);
        x.done();
        due("nothing", x.why(), 0);
        x.later(4, 1, 0, 15);
        x.done();
        due("it threw", x.why(), 1);
        x.done();
        due("nothing, of an empty ROW", x.why(), 0);
    }

    private static void constants() {
        due("BAD", ExactMoney.BAD, -1);
        due("OVER", ExactMoney.OVER, -2);
        due("LESS", ExactMoney.LESS, -3);
        due("NONE", ExactMoney.NONE, -4);
    }

    public static void main(String[] args) {
        Runnable[] promises = {
            PromiseTests::promise1, PromiseTests::promise2, PromiseTests::promise3, PromiseTests::promise4,
            PromiseTests::promise5, PromiseTests::promise6, PromiseTests::promise7, PromiseTests::promise8,
            PromiseTests::promise9, PromiseTests::promise10, PromiseTests::promise11, PromiseTests::promise12,
            PromiseTests::promise13, PromiseTests::promise14, PromiseTests::promise15, PromiseTests::promise16,
            PromiseTests::promise17, PromiseTests::promise18, PromiseTests::promise19, PromiseTests::promise20,
            PromiseTests::promise21, PromiseTests::promise22, PromiseTests::promise23, PromiseTests::promise24,
            PromiseTests::promise25, PromiseTests::promise26, PromiseTests::promise27, PromiseTests::promise28,
            PromiseTests::promise29, PromiseTests::promise30};
        constants();
        for (Runnable each : promises) {
            promise++;
            int before = checks;
            each.run();
            if (checks == before) {
                throw new IllegalStateException("no check of promise " + promise);
            }
        }
        promise = 1;
        theFirstFeeIsNoneOfOne();
        System.out.println(checks + " checks, " + wrong + " wrong");
        if (wrong != 0) {
            System.exit(1);
        }
    }
}
