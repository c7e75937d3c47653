import java.util.ArrayList;
import java.util.HashMap;
import java.util.HashSet;
import java.util.List;
import java.util.Map;
import java.util.Set;

/** Every case among small numbers and short texts, each against what the document says of it. */
public final class SmallTests {
    private static final int LESS = -3;
    private static final int NONE = -4;
    private static final int MOST_TOLD = 20;
    private static final int[][] FEES = {{0, 1}, {1, 2}, {1, 3}, {2, 3}, {9, 10}, {3, 1000}, {999999, 1000000}};

    private static int checks = 0;
    private static int wrong = 0;

    private static void due(String what, Object got, Object want) {
        checks++;
        if (!got.equals(want)) {
            wrong++;
            if (wrong <= MOST_TOLD) {
                System.out.println(what + ": " + got + ", due is " + want);
            }
        }
    }

    // ---- sums

    private static void sums() {
        for (int a = 0; a <= 12; a++) {
            for (int b = 0; b <= 12; b++) {
                String of = " of " + a + " and " + b;
                ExactMoney x = new ExactMoney();
                x.put(0, a);
                x.put(1, b);
                due("order" + of, x.order(0, 1), Integer.compare(a, b) + 1);
                due("add" + of, x.add(2, 0, 1) + " " + x.limb(2, 0), "1 " + (a + b));
                due("take" + of, x.take(3, 0, 1) + " " + x.limb(3, 0), a < b ? LESS + " 0" : "1 " + (a - b));
                if (b > 0) {
                    due("divide" + of, x.divide(4, 0, 1) + " " + x.limb(4, 0), "1 " + a / b);
                }
            }
        }
    }

    private static long rounded(long above, long below, int way) {
        long down = above / below;
        long rest = above % below;
        boolean isUp;
        switch (way) {
            case 0:
                isUp = false;
                break;
            case 1:
                isUp = rest > 0;
                break;
            case 2:
                isUp = rest > 0 && 2 * rest >= below;
                break;
            case 3:
                isUp = 2 * rest > below;
                break;
            default:
                isUp = 2 * rest > below || 2 * rest == below && down % 2 == 1;
                break;
        }
        return isUp ? down + 1 : down;
    }

    private static void roundings() {
        for (int way = 0; way < 5; way++) {
            for (int sum = 0; sum <= 24; sum++) {
                for (int above = 0; above <= 3; above++) {
                    for (int below = 1; below <= 8; below++) {
                        ExactMoney x = new ExactMoney();
                        x.put(0, sum);
                        String what = sum + " times " + above + " by " + below + " way " + way;
                        due(what, x.times(1, 0, above, below, way) + " " + x.limb(1, 0), "1 " + rounded((long) sum * above, below, way));
                    }
                }
            }
            for (int sum = 0; sum <= 320; sum++) {
                ExactMoney x = new ExactMoney();
                x.put(0, sum);
                for (int u = 0, step = 1; u <= 3; u++, step *= 10) {
                    String what = sum + " to 10^" + u + " way " + way;
                    due(what, x.round(1, 0, u, way) + " " + x.limb(1, 0), "1 " + rounded(sum, step, way) * step);
                }
            }
        }
    }

    // ---- shares

    private static void shares() {
        for (int mix = 0; mix < 256; mix++) {
            int[] weights = {mix & 3, mix >> 2 & 3, mix >> 4 & 3, mix >> 6};
            for (int sum = 0; sum <= 11; sum++) {
                ExactMoney x = new ExactMoney();
                for (int k = 0; k < 4; k++) {
                    x.weight(k, weights[k]);
                }
                x.put(0, sum);
                StringBuilder got = new StringBuilder().append(x.share(0, 1, 4));
                for (int k = 0; k < 4; k++) {
                    got.append(' ').append(x.limb(1 + k, 0));
                }
                due("shares of " + sum + " by mix " + mix, got.toString(), sharesDue(sum, weights));
            }
        }
    }

    private static String sharesDue(int sum, int[] weights) {
        int all = weights[0] + weights[1] + weights[2] + weights[3];
        if (all == 0) {
            return NONE + " 0 0 0 0";
        }
        int[] shares = new int[4];
        int left = sum;
        List<Integer> byLoss = new ArrayList<>();
        for (int k = 0; k < 4; k++) {
            shares[k] = sum * weights[k] / all;
            left -= shares[k];
            byLoss.add(k);
        }
        byLoss.sort((i, j) -> sum * weights[j] % all - sum * weights[i] % all);
        for (int k : byLoss.subList(0, left)) {
            shares[k]++;
        }
        return left + " " + shares[0] + " " + shares[1] + " " + shares[2] + " " + shares[3];
    }

    // ---- texts

    /** Each text of at most six bytes: so long that every rule of a text has its turn. */
    private static void texts(int unit) {
        Map<String, Long> whole = wholeTexts(unit);
        Set<String> begins = new HashSet<>();
        for (String text : whole.keySet()) {
            for (int length = 0; length <= text.length(); length++) {
                begins.add(text.substring(0, length));
            }
        }
        List<String> texts = new ArrayList<>();
        texts.add("");
        for (int from = 0, length = 0; length <= 6; length++) {
            int to = texts.size();
            for (; from < to; from++) {
                readOne(unit, texts.get(from), whole, begins);
                for (char c : new char[] {'0', '1', ',', '.', 'x'}) {
                    texts.add(texts.get(from) + c);
                }
            }
        }
    }

    private static void readOne(int unit, String text, Map<String, Long> whole, Set<String> begins) {
        ExactMoney x = new ExactMoney();
        x.unit(unit);
        x.put(0, 77);
        for (int i = 0; i < text.length(); i++) {
            x.feed(text.charAt(i));
        }
        String got = x.read(0) + " at " + x.place() + " sum " + x.limb(0, 0);
        if (whole.containsKey(text)) {
            due("read of " + text + " with " + unit, got, "1 at -4 sum " + whole.get(text));
            return;
        }
        int place = text.length();
        while (!begins.contains(text.substring(0, place))) {
            place--;
        }
        due("read of " + text + " with " + unit, got, "-11 at " + place + " sum 77");
    }

    /** Texts of the figures 0 and 1 alone, of up to nine ahead of the point, with what they mean. */
    private static Map<String, Long> wholeTexts(int unit) {
        Map<String, Long> whole = new HashMap<>();
        for (int bits = 0; bits < 512; bits++) {
            String ahead = Integer.toBinaryString(bits);
            String grouped = ahead.replaceAll("(?<=\\d)(?=(\\d{3})+$)", ",");
            for (int more = 0; more < 1 << unit; more++) {
                String behind = Integer.toBinaryString(1 << unit | more).substring(1);
                String point = unit == 0 ? "" : ".";
                whole.put(ahead + point + behind, Long.valueOf(ahead + behind));
                whole.put(grouped + point + behind, Long.valueOf(ahead + behind));
            }
        }
        return whole;
    }

    /** What is written is read again, and is what it was. */
    private static void textsAndBack() {
        for (int unit = 0; unit <= 12; unit++) {
            long sum = 1;
            for (int figures = 1; figures <= 18; figures++) {
                for (long near = sum - 1; near <= sum + 1; near++) {
                    ExactMoney x = new ExactMoney();
                    x.unit(unit);
                    x.put(0, near);
                    int length = x.print(0);
                    for (int i = 0; i < length; i++) {
                        x.feed(x.out(i));
                    }
                    due(near + " and back with " + unit, x.read(1) + " " + x.order(0, 1) + " " + x.place(), "1 1 -4");
                }
                sum *= 10;
            }
        }
    }

    // ---- pools

    private static ExactMoney joined(long side0, long side1, int[] fee) {
        ExactMoney x = new ExactMoney();
        x.fee(0, fee[0], fee[1]);
        x.put(0, side0);
        x.put(1, side1);
        x.join(0, 0, 1, 2);
        return x;
    }

    private static String told(ExactMoney x, int answer, int r) {
        StringBuilder told = new StringBuilder().append(answer).append(' ').append(x.limb(r, 0)).append(':');
        for (int what = 0; what < 3; what++) {
            x.see(0, what, 15);
            told.append(' ').append(x.limb(15, 0));
        }
        return told.toString();
    }

    private static String told(long answer, long r, long side0, long side1, long parts) {
        return answer + " " + r + ": " + side0 + " " + side1 + " " + parts;
    }

    private static long root(long square) {
        long root = 0;
        while ((root + 1) * (root + 1) <= square) {
            root++;
        }
        return root;
    }

    private static void pools() {
        for (int x = 1; x <= 7; x++) {
            for (int y = 1; y <= 7; y++) {
                for (int[] fee : FEES) {
                    for (int d = 0; d <= 9; d++) {
                        give(x, y, fee, d);
                        ask(x, y, fee, d);
                    }
                }
                for (int d = 0; d <= 9; d++) {
                    leave(x, y, d);
                    for (int e = 0; e <= 9; e++) {
                        join(x, y, d, e);
                    }
                }
            }
        }
    }

    private static void productStays(String what, long before, long after) {
        checks++;
        if (after < before) {
            wrong++;
            System.out.println(what + ": the product fell from " + before + " to " + after);
        }
    }

    private static void give(long x, long y, int[] fee, long d) {
        String what = "give of " + d + " to " + x + ", " + y + " with " + fee[0] + " / " + fee[1];
        long counts = d * (fee[1] - fee[0]);
        long got = y * counts / (x * fee[1] + counts);
        for (int side = 0; side < 2; side++) {
            ExactMoney m = side == 0 ? joined(x, y, fee) : joined(y, x, fee);
            m.put(3, d);
            String answer = told(m, m.give(0, side, 3, 4), 4);
            long to = got == 0 ? x : x + d;
            due(what, answer, told(got == 0 ? NONE : 1, got, side == 0 ? to : y - got, side == 0 ? y - got : to, root(x * y)));
        }
        productStays(what, x * y, (x + d) * (y - got));
    }

    private static void ask(long x, long y, int[] fee, long e) {
        String what = "ask for " + e + " of " + y + ", " + x + " with " + fee[0] + " / " + fee[1];
        int answerDue = e >= y ? LESS : e == 0 ? NONE : 1;
        long given = answerDue == 1 ? rounded(x * e * fee[1], (y - e) * (fee[1] - fee[0]), 1) : 0;
        long taken = answerDue == 1 ? e : 0;
        for (int side = 0; side < 2; side++) {
            ExactMoney m = side == 0 ? joined(x, y, fee) : joined(y, x, fee);
            m.put(3, e);
            String answer = told(m, m.ask(0, side, 3, 4), 4);
            long side0 = side == 0 ? x + given : y - taken;
            long side1 = side == 0 ? y - taken : x + given;
            due(what, answer, told(answerDue, given, side0, side1, root(x * y)));
        }
        productStays(what, x * y, (x + given) * (y - taken));
    }

    private static void leave(long x, long y, long s) {
        long parts = root(x * y);
        ExactMoney m = joined(x, y, FEES[0]);
        m.put(3, s);
        int answer = m.leave(0, 3, 4, 5);
        String got = m.limb(5, 0) + " " + told(m, answer, 4);
        String want;
        if (s == 0 || s > parts) {
            want = "0 " + told(s == 0 ? NONE : LESS, 0, x, y, parts);
        } else {
            long first = x * s / parts;
            long second = y * s / parts;
            want = second + " " + told(1, first, x - first, y - second, parts - s);
        }
        due("leave with " + s + " of " + parts + " of " + x + ", " + y, got, want);
    }

    private static void join(long x, long y, long d, long e) {
        long parts = root(x * y);
        long more = Math.min(d * parts / x, e * parts / y);
        ExactMoney m = joined(x, y, FEES[0]);
        m.put(3, d);
        m.put(4, e);
        String got = told(m, m.join(0, 3, 4, 5), 5);
        String want = more == 0 ? told(NONE, 0, x, y, parts) : told(1, more, x + d, y + e, parts + more);
        due("join with " + d + ", " + e + " to " + x + ", " + y, got, want);
    }

    private static void roots() {
        for (int d = 0; d <= 40; d++) {
            for (int e = 0; e <= 40; e++) {
                ExactMoney m = new ExactMoney();
                m.put(0, d);
                m.put(1, e);
                boolean isNone = d == 0 || e == 0;
                String want = isNone ? told(NONE, 0, 0, 0, 0) : told(1, root(d * e), d, e, root(d * e));
                due("root of " + d + " " + e, told(m, m.join(0, 0, 1, 2), 2), want);
            }
        }
    }

    public static void main(String[] args) {
        sums();
        roundings();
        shares();
        for (int unit = 0; unit <= 3; unit++) {
            texts(unit);
        }
        textsAndBack();
        pools();
        roots();
        System.out.println(checks + " checks, " + wrong + " wrong");
        if (wrong != 0) {
            System.exit(1);
        }
    }
}
