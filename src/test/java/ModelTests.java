import java.lang.reflect.InvocationTargetException;
import java.lang.reflect.Method;
import java.math.BigDecimal;
import java.math.BigInteger;
import java.math.RoundingMode;
import java.util.ArrayList;
import java.util.Arrays;
import java.util.List;
import java.util.Locale;
import java.util.Map;
import java.util.Random;
import java.util.TreeMap;
import java.util.regex.Matcher;
import java.util.regex.Pattern;

/** Runs of calls, the same each time, each answered by the class and by a model over BigInteger. */
public final class ModelTests {
    private static final int RUNS = 6000;
    /** The last step may be a text of 120 bytes, and 128 calls look at all SUMS: 512 are not passed. */
    private static final int CALLS = 256;
    private static final int MOST_TOLD = 5;

    private static final String[] ARITHMETIC = {"set", "add", "take", "times", "round", "divide", "order", "more", "put", "limb"};
    private static final String[] SHARES = {"set", "weight", "weight", "share", "limb", "add"};
    private static final String[] TEXTS = {"set", "print", "out", "text", "text", "feed", "read", "place", "figures", "figure", "unit"};
    private static final String[] POOLS = {"setPool", "fee", "join", "join", "leave", "give", "give", "give", "ask", "ask", "see", "limb", "add"};
    private static final String[] ROWS = {"setPool", "set", "later", "later", "later", "later", "done", "tries", "why", "join", "see", "limb"};
    private static final String[][] KINDS = {ARITHMETIC, SHARES, TEXTS, POOLS, ROWS};

    private static final Map<String, Method> REAL = methodsOf(ExactMoney.class);
    private static final Map<String, Method> MODEL = methodsOf(Model.class);
    private static final Map<String, Integer> SEEN = new TreeMap<>();

    private final Random random;
    private final ExactMoney real = new ExactMoney();
    private final Model model = new Model();
    private final List<String> told = new ArrayList<>();
    private int calls = 0;
    private boolean isWrong = false;

    private ModelTests(int seed) {
        random = new Random(seed);
    }

    private static Map<String, Method> methodsOf(Class<?> face) {
        Map<String, Method> methods = new TreeMap<>();
        for (Method method : face.getDeclaredMethods()) {
            methods.put(method.getName(), method);
        }
        return methods;
    }

    private static String answer(Method method, Object on, Object[] args) {
        try {
            return method.invoke(on, args).toString();
        } catch (InvocationTargetException e) {
            return "throws." + e.getCause().getClass().getSimpleName();
        } catch (IllegalAccessException e) {
            throw new IllegalStateException(e);
        }
    }

    private void call(String name, Object... args) {
        calls++;
        String got = answer(REAL.get(name), real, args);
        String want = answer(MODEL.get(name), model, args);
        String line = name + Arrays.toString(args) + " answered " + got;
        told.add(line);
        SEEN.merge(name + (want.startsWith("-") || want.startsWith("throws") ? " " + want : " fine"), 1, Integer::sum);
        if (!got.equals(want)) {
            isWrong = true;
            told.add("due is " + want);
        }
    }

    private int small(int from, int to) {
        return from + random.nextInt(to - from + 1);
    }

    /** Mostly of the range, at times beside it or far off. */
    private int near(int from, int to) {
        int kind = random.nextInt(60);
        if (kind == 0) {
            return from - 1;
        }
        if (kind == 1) {
            return to + 1;
        }
        return kind == 2 ? random.nextInt() : small(from, to);
    }

    private int register() {
        return near(0, 15);
    }

    private BigInteger number(int mostBits) {
        BigInteger power = BigInteger.ONE.shiftLeft(small(0, mostBits));
        BigInteger limit = BigInteger.ONE.shiftLeft(mostBits).subtract(BigInteger.ONE);
        switch (random.nextInt(7)) {
            case 0:
                return power.subtract(BigInteger.ONE);
            case 1:
                return power.min(limit);
            case 2:
                return limit.subtract(BigInteger.valueOf(small(0, 3))).max(BigInteger.ZERO);
            case 3:
                return BigInteger.valueOf(small(0, 20)).min(limit);
            case 4:
                return BigInteger.TEN.pow(small(0, mostBits * 30 / 100)).multiply(BigInteger.valueOf(small(1, 5))).min(limit);
            case 5:
                return patterned(mostBits);
            default:
                return new BigInteger(small(1, mostBits), random);
        }
    }

    /** Limbs at which a long division guesses wrong. */
    private BigInteger patterned(int mostBits) {
        int[] limbs = {0, 1, 2, 0x7fff, 0x8000, 0x8001, 0xfffe, 0xffff};
        BigInteger number = BigInteger.ZERO;
        for (int bits = small(0, mostBits); bits >= 16; bits -= 16) {
            number = number.shiftLeft(16).add(BigInteger.valueOf(limbs[random.nextInt(limbs.length)]));
        }
        return number;
    }

    private long anyLong() {
        return random.nextInt(40) == 0 ? -number(63).longValue() - 1 : number(63).longValue();
    }

    private void set(int mostBits) {
        BigInteger sum = number(mostBits);
        int r = register();
        int limbs = (sum.bitLength() + 31) / 32;
        call("put", r, limbs <= 1 ? sum.longValue() : 0L);
        for (int i = limbs - 1; i >= 0 && limbs > 1; i--) {
            call("more", r, sum.shiftRight(32 * i).intValue());
        }
    }

    /** A text that is right, or right but for one byte or its end. */
    private void text() {
        String text = Model.textOf(number(small(1, 260)), model.unit);
        if (random.nextInt(3) == 0) {
            text = text.replace(",", "");
        }
        StringBuilder bytes = new StringBuilder(text);
        int at = random.nextInt(bytes.length());
        switch (random.nextInt(7)) {
            case 0:
                bytes.setCharAt(at, "0123456789,.x".charAt(random.nextInt(13)));
                break;
            case 1:
                bytes.setLength(at);
                break;
            case 2:
                bytes.insert(at, "0123456789,.x".charAt(random.nextInt(13)));
                break;
            case 3:
                bytes.deleteCharAt(at);
                break;
            default:
                break;
        }
        for (int i = 0; i < bytes.length(); i++) {
            call("feed", (int) bytes.charAt(i));
        }
        call("read", register());
        call("place");
    }

    private void later() {
        int act = near(0, 4);
        int b = act == 2 ? near(0, 3) : act == 3 ? (int) anyLong() : register();
        call("later", act, register(), register(), b);
    }

    private void fee() {
        int q = random.nextInt(3) == 0 ? near(1, 1000000) : near(1, 1000);
        call("fee", near(0, 3), random.nextInt(4) == 0 ? small(-1, 1000) : small(0, Math.max(0, Math.min(q, 1000000) - 1)), q);
    }

    private void step(String name) {
        switch (name) {
            case "set": set(256); break;
            case "setPool": set(random.nextInt(3) == 0 ? 101 : small(1, 100)); break;
            case "text": text(); break;
            case "later": later(); break;
            case "fee": fee(); break;
            case "put": call(name, register(), anyLong()); break;
            case "more": call(name, register(), random.nextInt()); break;
            case "limb": call(name, register(), near(0, 7)); break;
            case "add": case "take": case "divide": call(name, register(), register(), register()); break;
            case "times": call(name, register(), register(), anyLong(), anyLong(), near(0, 4)); break;
            case "round": call(name, register(), register(), near(0, 18), near(0, 4)); break;
            case "order": call(name, register(), register()); break;
            case "weight": call(name, near(0, 11), random.nextInt(3) == 0 ? number(40).longValue() : (long) small(-1, 6)); break;
            case "share": call(name, register(), near(0, 9), near(1, 12)); break;
            case "figures": case "print": case "read": call(name, register()); break;
            case "figure": call(name, register(), near(0, 78)); break;
            case "out": call(name, near(0, 103)); break;
            case "unit": call(name, near(0, 12)); break;
            case "feed": call(name, near(0, 255)); break;
            case "join": case "leave": call(name, near(0, 3), register(), register(), register()); break;
            case "give": case "ask": call(name, near(0, 3), near(0, 1), register(), register()); break;
            case "see": call(name, near(0, 3), near(0, 2), register()); break;
            default: call(name); break;
        }
    }

    private boolean passes() {
        String[] kind = KINDS[random.nextInt(KINDS.length)];
        while (calls < CALLS && !isWrong) {
            String[] from = random.nextInt(12) == 0 ? KINDS[random.nextInt(KINDS.length)] : kind;
            step(from[random.nextInt(from.length)]);
        }
        for (int r = 0; r < 16; r++) {
            for (int i = 0; i < 8 && !isWrong; i++) {
                call("limb", r, i);
            }
        }
        return !isWrong;
    }

    public static void main(String[] args) {
        int wrong = 0;
        for (int seed = 0; seed < RUNS; seed++) {
            ModelTests run = new ModelTests(seed);
            if (!run.passes()) {
                wrong++;
                if (wrong <= MOST_TOLD) {
                    System.out.println("run " + seed + ":");
                    run.told.forEach(line -> System.out.println("  " + line));
                }
            }
        }
        if (args.length > 0) {
            SEEN.forEach((what, count) -> System.out.println(what + " " + count));
        }
        System.out.println(RUNS + " runs, " + wrong + " wrong");
        if (wrong != 0) {
            System.exit(1);
        }
    }

    /** The document, as plainly as BigInteger allows. */
    static final class Model {
        static final int BAD = -1;
        static final int OVER = -2;
        static final int LESS = -3;
        static final int NONE = -4;
        static final BigInteger ZERO = BigInteger.ZERO;

        BigInteger[] sums = new BigInteger[16];
        /** Side 0, side 1 and PARTS of each POOL. */
        BigInteger[][] pools = new BigInteger[4][3];
        int[] p = new int[4];
        int[] q = {1, 1, 1, 1};
        final long[] weights = new long[12];
        int unit = 2;
        String out = "";
        String tape = "";
        int place = NONE;
        final List<int[]> row = new ArrayList<>();
        int tries = 0;
        int why = 0;

        Model() {
            Arrays.fill(sums, ZERO);
            for (BigInteger[] pool : pools) {
                Arrays.fill(pool, ZERO);
            }
        }

        static boolean bad(int... registers) {
            for (int r : registers) {
                if (r < 0 || r > 15) {
                    return true;
                }
            }
            return false;
        }

        static boolean noPool(int pool) {
            return pool < 0 || pool > 3;
        }

        static boolean over100(BigInteger sum) {
            return sum.bitLength() > 100;
        }

        int keep(int r, BigInteger sum) {
            if (sum.bitLength() > 256) {
                return OVER;
            }
            sums[r] = sum;
            return 1;
        }

        static BigInteger rounded(BigInteger above, BigInteger below, int way) {
            RoundingMode[] modes = {
                RoundingMode.DOWN, RoundingMode.UP, RoundingMode.HALF_UP,
                RoundingMode.HALF_DOWN, RoundingMode.HALF_EVEN};
            return new BigDecimal(above).divide(new BigDecimal(below), 0, modes[way]).toBigInteger();
        }

        static String textOf(BigInteger sum, int unit) {
            BigInteger[] parts = sum.divideAndRemainder(BigInteger.TEN.pow(unit));
            String ahead = String.format(Locale.ROOT, "%,d", parts[0]);
            return unit == 0 ? ahead : ahead + "." + String.format(Locale.ROOT, "%0" + unit + "d", parts[1]);
        }

        public int put(int r, long v) {
            return bad(r) || v < 0 ? BAD : keep(r, BigInteger.valueOf(v));
        }

        public int more(int r, int v) {
            return bad(r) ? BAD : keep(r, sums[r].shiftLeft(32).add(BigInteger.valueOf(v & 0xffffffffL)));
        }

        public long limb(int r, int i) {
            return bad(r) || i < 0 || i > 7 ? -1 : sums[r].shiftRight(32 * i).longValue() & 0xffffffffL;
        }

        public int add(int r, int a, int b) {
            return bad(r, a, b) ? BAD : keep(r, sums[a].add(sums[b]));
        }

        public int take(int r, int a, int b) {
            if (bad(r, a, b)) {
                return BAD;
            }
            return sums[a].compareTo(sums[b]) < 0 ? LESS : keep(r, sums[a].subtract(sums[b]));
        }

        public int times(int r, int a, long above, long below, int way) {
            if (bad(r, a) || way < 0 || way > 4 || above < 0 || below < 0) {
                return BAD;
            }
            if (below == 0) {
                throw new ArithmeticException();
            }
            return keep(r, rounded(sums[a].multiply(BigInteger.valueOf(above)), BigInteger.valueOf(below), way));
        }

        public int round(int r, int a, int u, int way) {
            if (bad(r, a) || u < 0 || u > 18 || way < 0 || way > 4) {
                return BAD;
            }
            BigInteger step = BigInteger.TEN.pow(u);
            return keep(r, rounded(sums[a], step, way).multiply(step));
        }

        public int divide(int r, int a, int b) {
            if (bad(r, a, b)) {
                return BAD;
            }
            if (sums[b].signum() == 0) {
                throw new ArithmeticException();
            }
            return keep(r, sums[a].divide(sums[b]));
        }

        public int order(int a, int b) {
            return bad(a, b) ? BAD : Integer.signum(sums[a].compareTo(sums[b])) + 1;
        }

        public int weight(int k, long w) {
            if (k < 0 || k > 11 || w < 0 || w > 1000000000000L) {
                return BAD;
            }
            weights[k] = w;
            return 1;
        }

        public int share(int a, int from, int n) {
            if (bad(a) || n < 1 || n > 12 || bad(from) || bad(from + n - 1)) {
                return BAD;
            }
            BigInteger all = BigInteger.valueOf(Arrays.stream(weights, 0, n).sum());
            if (all.signum() == 0) {
                return NONE;
            }
            List<Integer> byLoss = new ArrayList<>();
            BigInteger[][] parts = new BigInteger[n][];
            BigInteger left = sums[a];
            for (int k = 0; k < n; k++) {
                parts[k] = sums[a].multiply(BigInteger.valueOf(weights[k])).divideAndRemainder(all);
                left = left.subtract(parts[k][0]);
                byLoss.add(k);
            }
            byLoss.sort((i, j) -> parts[j][1].compareTo(parts[i][1]));
            for (int k = 0; k < n; k++) {
                sums[from + k] = parts[k][0];
            }
            int units = left.intValueExact();
            for (int k : byLoss.subList(0, units)) {
                sums[from + k] = sums[from + k].add(BigInteger.ONE);
            }
            return units;
        }

        public int figures(int a) {
            return bad(a) ? BAD : sums[a].toString().length();
        }

        public int figure(int a, int i) {
            if (bad(a)) {
                return BAD;
            }
            String figures = sums[a].toString();
            if (i < 0 || i >= figures.length()) {
                throw new ArrayIndexOutOfBoundsException();
            }
            return figures.charAt(figures.length() - 1 - i) - '0';
        }

        public int unit(int u) {
            if (u < 0 || u > 12) {
                return BAD;
            }
            int was = unit;
            unit = u;
            return was;
        }

        public int print(int a) {
            if (bad(a)) {
                return BAD;
            }
            out = textOf(sums[a], unit);
            return out.length();
        }

        public int out(int i) {
            if (i < 0 || i >= out.length()) {
                throw new ArrayIndexOutOfBoundsException();
            }
            return out.charAt(i);
        }

        public int feed(int c) {
            if (c < 0 || c > 255) {
                return BAD;
            }
            if (tape.length() == 120) {
                return OVER;
            }
            tape += (char) c;
            return tape.length();
        }

        public int read(int r) {
            if (bad(r)) {
                return BAD;
            }
            String text = tape;
            tape = "";
            String behind = unit == 0 ? "" : "\\.[0-9]{" + unit + "}";
            Pattern whole = Pattern.compile("(0|[1-9][0-9]{0,2}(,[0-9]{3})+|[1-9][0-9]*)" + behind);
            for (int length = 0; length <= text.length(); length++) {
                Matcher matcher = whole.matcher(text.substring(0, length));
                boolean fits = matcher.matches();
                // A text that the pattern ran through to its end may still go on to a whole one.
                if (!fits && (length == text.length() || !matcher.hitEnd())) {
                    place = matcher.hitEnd() ? length : length - 1;
                    return -11;
                }
            }
            BigInteger sum = new BigInteger(text.replace(",", "").replace(".", ""));
            boolean isOver = keep(r, sum) == OVER;
            place = isOver ? text.length() : NONE;
            return isOver ? -12 : 1;
        }

        public int place() {
            return place;
        }

        public int fee(int pool, int newP, int newQ) {
            if (noPool(pool) || newP < 0 || newP >= newQ || newQ > 1000000) {
                return BAD;
            }
            int wasOpen = pools[pool][2].signum();
            Arrays.fill(pools[pool], ZERO);
            p[pool] = newP;
            q[pool] = newQ;
            return wasOpen;
        }

        public int join(int pool, int a, int b, int r) {
            if (noPool(pool) || bad(a, b, r)) {
                return BAD;
            }
            BigInteger d = sums[a];
            BigInteger e = sums[b];
            BigInteger[] in = pools[pool];
            BigInteger parts = in[2].signum() == 0 ? d.multiply(e).sqrt()
                : d.multiply(in[2]).divide(in[0]).min(e.multiply(in[2]).divide(in[1]));
            BigInteger[] next = {in[0].add(d), in[1].add(e), in[2].add(parts)};
            if (over100(d) || over100(e) || over100(next[0]) || over100(next[1]) || over100(next[2])) {
                return OVER;
            }
            if (parts.signum() == 0) {
                return NONE;
            }
            pools[pool] = next;
            return keep(r, parts);
        }

        public int leave(int pool, int s, int a, int b) {
            if (noPool(pool) || bad(s, a, b)) {
                return BAD;
            }
            BigInteger[] in = pools[pool];
            BigInteger left = sums[s];
            if (left.compareTo(in[2]) > 0) {
                return LESS;
            }
            if (left.signum() == 0) {
                return NONE;
            }
            BigInteger first = in[0].multiply(left).divide(in[2]);
            BigInteger second = in[1].multiply(left).divide(in[2]);
            pools[pool] = new BigInteger[] {in[0].subtract(first), in[1].subtract(second), in[2].subtract(left)};
            sums[a] = first;
            sums[b] = second;
            return 1;
        }

        void trade(int pool, int side, BigInteger in, BigInteger out) {
            BigInteger[] next = pools[pool].clone();
            next[side] = next[side].add(in);
            next[1 - side] = next[1 - side].subtract(out);
            if (next[0].multiply(next[1]).compareTo(pools[pool][0].multiply(pools[pool][1])) < 0) {
                throw new IllegalStateException("the product fell");
            }
            pools[pool] = next;
        }

        public int give(int pool, int side, int a, int r) {
            if (noPool(pool) || side < 0 || side > 1 || bad(a, r)) {
                return BAD;
            }
            BigInteger x = pools[pool][side];
            BigInteger d = sums[a];
            if (over100(d) || over100(x.add(d))) {
                return OVER;
            }
            if (pools[pool][2].signum() == 0) {
                return NONE;
            }
            BigInteger counts = d.multiply(BigInteger.valueOf(q[pool] - p[pool]));
            BigInteger got = pools[pool][1 - side].multiply(counts).divide(x.multiply(BigInteger.valueOf(q[pool])).add(counts));
            if (got.signum() == 0) {
                return NONE;
            }
            trade(pool, side, d, got);
            return keep(r, got);
        }

        public int ask(int pool, int side, int a, int r) {
            if (noPool(pool) || side < 0 || side > 1 || bad(a, r)) {
                return BAD;
            }
            BigInteger x = pools[pool][side];
            BigInteger y = pools[pool][1 - side];
            BigInteger e = sums[a];
            if (e.compareTo(y) >= 0) {
                return LESS;
            }
            BigInteger below = y.subtract(e).multiply(BigInteger.valueOf(q[pool] - p[pool]));
            BigInteger given = rounded(x.multiply(e).multiply(BigInteger.valueOf(q[pool])), below, 1);
            if (over100(x.add(given))) {
                return OVER;
            }
            if (e.signum() == 0) {
                return NONE;
            }
            trade(pool, side, given, e);
            return keep(r, given);
        }

        public int see(int pool, int what, int r) {
            return noPool(pool) || what < 0 || what > 2 || bad(r) ? BAD : keep(r, pools[pool][what]);
        }

        public int later(int act, int r, int a, int b) {
            if (act < 0 || act > 4) {
                return BAD;
            }
            if (row.size() == 12) {
                return OVER;
            }
            row.add(new int[] {act, r, a, b});
            return row.size();
        }

        int perform(int act, int r, int a, int b) {
            switch (act) {
                case 0: return add(r, a, b);
                case 1: return take(r, a, b);
                case 2: return give(b, r & 1, a, r);
                case 3: return times(r, a, b, 2, 2);
                default: return divide(r, a, b);
            }
        }

        public int done() {
            List<int[]> acts = new ArrayList<>(row);
            row.clear();
            why = 0;
            BigInteger[] oldSums = sums.clone();
            BigInteger[][] oldPools = pools.clone();
            for (int k = 0; k < acts.size(); k++) {
                tries++;
                int[] act = acts.get(k);
                int answer;
                try {
                    answer = perform(act[0], act[1], act[2], act[3]);
                    why = answer < 0 ? answer : 0;
                } catch (ArithmeticException e) {
                    answer = BAD;
                    why = 1;
                }
                if (answer < 0) {
                    sums = oldSums;
                    pools = oldPools;
                    return -10 - k;
                }
            }
            return acts.size();
        }

        public int tries() {
            return tries;
        }

        public int why() {
            return why;
        }
    }
}
