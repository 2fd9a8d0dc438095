import java.math.BigInteger;
import java.util.ArrayList;
import java.util.HashMap;
import java.util.HashSet;
import java.util.List;
import java.util.Map;
import java.util.Random;
import java.util.Set;
import java.util.TreeMap;

/** The document's words on one SET, as slowly and plainly as they can be reckoned. */
final class Plain {
    static final BigInteger P = BigInteger.valueOf(1000003);
    static final String[] NAMES = {"n", "ne", "e", "se", "s", "sw", "w", "nw"};
    static final int[][] STEPS = {{0, 1}, {1, 1}, {1, 0}, {1, -1}, {0, -1}, {-1, -1}, {-1, 0}, {-1, 1}};

    final int[] w;
    final int sx;
    final int sy;
    private final Map<Integer, List<Map<List<Integer>, BigInteger>>> ends = new HashMap<>();

    Plain(int[] w, int sx, int sy) {
        this.w = w.clone();
        this.sx = sx;
        this.sy = sy;
    }

    /** As the first SET of a BOOK. */
    static Plain of(QuarterWalks q) {
        int[] w = new int[8];
        for (int k = 0; k < 8; k++) {
            w[k] = q.rule(0, k);
        }
        return new Plain(w, q.rule(0, 10), q.rule(0, 11));
    }

    static Plain random(Random r) {
        int[] w = new int[8];
        int most = r.nextInt(4) == 0 ? 9 : r.nextInt(3) + 1;
        int many = r.nextInt(8) + 1;
        for (int i = 0; i < many; i++) {
            w[r.nextInt(8)] = r.nextInt(most) + 1;
        }
        boolean atZero = r.nextInt(3) != 0;
        return new Plain(w, atZero ? 0 : r.nextInt(10), atZero ? 0 : r.nextInt(10));
    }

    /** Its weights the same when x, and when y, is turned to less. */
    static Plain randomEven(Random r) {
        int[] w = new int[8];
        w[r.nextInt(4)] = r.nextInt(3) + 1;
        w[2] = r.nextInt(3);
        w[0] = w[4] = Math.max(w[0], r.nextInt(2));
        w[6] = w[2];
        w[3] = w[5] = w[7] = w[1];
        if (w[0] + w[1] + w[2] == 0) {
            w[0] = w[4] = 1;
        }
        return new Plain(w, r.nextInt(3), r.nextInt(3));
    }

    String text() {
        StringBuilder text = new StringBuilder();
        for (int k = 0; k < 8; k++) {
            if (w[k] > 0) {
                text.append(text.length() > 0 ? " " : "").append(NAMES[k]).append(w[k] == 1 ? "" : " " + w[k]);
            }
        }
        return sx == 0 && sy == 0 ? text.toString() : text + "; from " + sx + " " + sy;
    }

    int total() {
        int all = 0;
        for (int one : w) {
            all += one;
        }
        return all;
    }

    static boolean stays(int place, int x, int y) {
        return (place == 1 || place == 2 || x >= 0) && (place == 2 || place == 3 || y >= 0);
    }

    /** Places 0 to 2 as told; 3: no x below 0; 4 and 5: 0 and the same with all WEIGHTS 1. */
    Map<List<Integer>, BigInteger> ends(int place, int n) {
        List<Map<List<Integer>, BigInteger>> row = ends.computeIfAbsent(place, k -> new ArrayList<>());
        if (row.isEmpty()) {
            row.add(Map.of(List.of(sx, sy), BigInteger.ONE));
        }
        for (int m = row.size(); m <= n; m++) {
            Map<List<Integer>, BigInteger> next = new HashMap<>();
            for (Map.Entry<List<Integer>, BigInteger> one : row.get(m - 1).entrySet()) {
                for (int k = 0; k < 8; k++) {
                    int x = one.getKey().get(0) + STEPS[k][0];
                    int y = one.getKey().get(1) + STEPS[k][1];
                    if (w[k] > 0 && stays(place == 4 ? 0 : place, x, y)) {
                        BigInteger worth = BigInteger.valueOf(place == 4 ? 1 : w[k]);
                        next.merge(List.of(x, y), one.getValue().multiply(worth), BigInteger::add);
                    }
                }
            }
            row.add(next);
        }
        return row.get(n);
    }

    BigInteger whole(int place, int n, int x, int y) {
        return ends(place, n).getOrDefault(List.of(x, y), BigInteger.ZERO);
    }

    static int mod(BigInteger number) {
        return number.mod(P).intValueExact();
    }

    int at(int place, int n, int x, int y) {
        return mod(whole(place, n, x, y));
    }

    int series(int kind, int n) {
        return seriesIn(0, kind, n);
    }

    int seriesIn(int place, int kind, int n) {
        BigInteger all = BigInteger.ZERO;
        for (Map.Entry<List<Integer>, BigInteger> one : ends(place, n).entrySet()) {
            int x = one.getKey().get(0);
            int y = one.getKey().get(1);
            boolean[] counts = {true, x == sx && y == sy, y == 0, x == 0, x == y};
            if (counts[kind]) {
                all = all.add(one.getValue());
            }
        }
        return mod(all);
    }

    long exact(int n, int x, int y) {
        BigInteger greatest = BigInteger.valueOf(Long.MAX_VALUE);
        return BigInteger.valueOf(total()).pow(n).compareTo(greatest) > 0 ? -1 : whole(0, n, x, y).longValueExact();
    }

    int out(int n) {
        BigInteger all = BigInteger.ZERO;
        for (Map.Entry<List<Integer>, BigInteger> one : ends(0, n).entrySet()) {
            for (int k = 0; k < 8; k++) {
                if (!stays(0, one.getKey().get(0) + STEPS[k][0], one.getKey().get(1) + STEPS[k][1])) {
                    all = all.add(one.getValue().multiply(BigInteger.valueOf(w[k])));
                }
            }
        }
        return mod(all);
    }

    /** Walks in the quarter; those that are at (nx, ny) on their way, or beyond (mx, my), are left out. */
    private BigInteger kept(int n, int x, int y, boolean arch, int mx, int my) {
        Map<List<Integer>, BigInteger> now = new HashMap<>();
        if (sx <= mx && sy <= my) {
            now.put(List.of(sx, sy), BigInteger.ONE);
        }
        for (int m = 1; m <= n; m++) {
            Map<List<Integer>, BigInteger> next = new HashMap<>();
            for (Map.Entry<List<Integer>, BigInteger> one : now.entrySet()) {
                for (int k = 0; k < 8; k++) {
                    int px = one.getKey().get(0) + STEPS[k][0];
                    int py = one.getKey().get(1) + STEPS[k][1];
                    boolean back = arch && m < n && px == sx && py == sy;
                    if (w[k] > 0 && stays(0, px, py) && px <= mx && py <= my && !back) {
                        next.merge(List.of(px, py), one.getValue().multiply(BigInteger.valueOf(w[k])), BigInteger::add);
                    }
                }
            }
            now = next;
        }
        return now.getOrDefault(List.of(x, y), BigInteger.ZERO);
    }

    int arches(int n) {
        return mod(kept(n, sx, sy, true, 1000, 1000));
    }

    int bridge(int n, int x, int y) {
        return mod(kept(n, x, y, false, x, y));
    }

    boolean isEven() {
        return w[1] == w[7] && w[2] == w[6] && w[3] == w[5] && w[0] == w[4] && w[1] == w[3] && w[7] == w[5];
    }

    int reflected(int n, int x, int y) {
        if (!isEven()) {
            return QuarterWalks.HIDDEN;
        }
        return mod(whole(2, n, x, y).add(whole(2, n, -x - 2, -y - 2)).subtract(whole(2, n, -x - 2, y))
            .subtract(whole(2, n, x, -y - 2)));
    }

    int value(int n, int x, int y) {
        BigInteger all = BigInteger.ZERO;
        for (Map.Entry<List<Integer>, BigInteger> one : ends(0, n).entrySet()) {
            BigInteger px = BigInteger.valueOf(x).pow(one.getKey().get(0));
            BigInteger py = BigInteger.valueOf(y).pow(one.getKey().get(1));
            all = all.add(one.getValue().multiply(px.mod(P)).multiply(py.mod(P)));
        }
        return mod(all);
    }

    int meet(Plain other, int n) {
        BigInteger all = BigInteger.ZERO;
        for (Map.Entry<List<Integer>, BigInteger> one : ends(0, n).entrySet()) {
            all = all.add(one.getValue().multiply(other.ends(0, n).getOrDefault(one.getKey(), BigInteger.ZERO)));
        }
        return mod(all);
    }

    /** Every WALK of n STEPS to a point, in order, one by one. */
    List<int[]> walks(int n, int x, int y) {
        List<int[]> all = new ArrayList<>();
        list(all, new int[n], 0, new int[] {sx, sy, x, y});
        return all;
    }

    private void list(List<int[]> all, int[] made, int m, int[] p) {
        if (m == made.length) {
            if (p[0] == p[2] && p[1] == p[3]) {
                all.add(made.clone());
            }
            return;
        }
        for (int k = 0; k < 8; k++) {
            int px = p[0] + STEPS[k][0];
            int py = p[1] + STEPS[k][1];
            if (w[k] > 0 && stays(0, px, py)) {
                made[m] = k;
                list(all, made, m + 1, new int[] {px, py, p[2], p[3]});
            }
        }
    }

    static BigInteger lot(long seed) {
        BigInteger round = BigInteger.ONE.shiftLeft(64);
        BigInteger product = BigInteger.valueOf(seed).multiply(new BigInteger("6364136223846793005"));
        return product.add(new BigInteger("1442695040888963407")).mod(round).shiftRight(33);
    }

    int peak(int n, int what) {
        TreeMap<List<Integer>, BigInteger> sorted = new TreeMap<>(
            (a, b) -> a.get(0).equals(b.get(0)) ? a.get(1) - b.get(1) : a.get(0) - b.get(0));
        sorted.putAll(ends(4, n));
        List<Integer> best = null;
        for (Map.Entry<List<Integer>, BigInteger> one : sorted.entrySet()) {
            if (best == null || one.getValue().compareTo(sorted.get(best)) > 0) {
                best = one.getKey();
            }
        }
        if (best == null) {
            return QuarterWalks.HIDDEN;
        }
        return what == 2 ? sorted.get(best).intValueExact() : best.get(what);
    }

    int fewest(int x, int y) {
        for (int n = 0; n <= 60; n++) {
            if (ends(0, n).containsKey(List.of(x, y))) {
                return n;
            }
        }
        return -1;
    }

    int period() {
        BigInteger common = BigInteger.ZERO;
        for (int n = 1; n <= 60; n++) {
            if (ends(0, n).containsKey(List.of(sx, sy))) {
                common = common.gcd(BigInteger.valueOf(n));
            }
        }
        return common.intValueExact();
    }

    int noUse() {
        int idle = 0;
        for (int k = 0; k < 8; k++) {
            boolean used = false;
            for (int n = 0; n < 24; n++) {
                for (List<Integer> p : ends(0, n).keySet()) {
                    used |= stays(0, p.get(0) + STEPS[k][0], p.get(1) + STEPS[k][1]);
                }
            }
            idle |= w[k] > 0 && !used ? 1 << k : 0;
        }
        return idle;
    }

    int enough() {
        boolean upper = true;
        boolean right = true;
        for (int n = 0; n <= 12; n++) {
            upper &= seriesIn(1, 0, n) == series(0, n);
            right &= seriesIn(3, 0, n) == series(0, n);
        }
        return (upper ? 1 : 0) + (right ? 2 : 0);
    }

    boolean isAlike(Plain other) {
        for (int n = 0; n <= 20; n++) {
            if (series(0, n) != other.series(0, n)) {
                return false;
            }
        }
        return true;
    }

    static BigInteger power(BigInteger base, int exponent) {
        return base.modPow(BigInteger.valueOf(exponent), P);
    }

    /** Of STEPS that have that x (or any, if 9) and that y: WEIGHTS times x and y to theirs. */
    private BigInteger part(int dx, int dy, BigInteger x, BigInteger y) {
        BigInteger all = BigInteger.ZERO;
        for (int k = 0; k < 8; k++) {
            if ((dx == 9 || STEPS[k][0] == dx) && (dy == 9 || STEPS[k][1] == dy)) {
                all = all.add(BigInteger.valueOf(w[k]).multiply(power(x, STEPS[k][0])).multiply(power(y, STEPS[k][1])));
            }
        }
        return all.mod(P);
    }

    int kernel(int x, int y) {
        return mod(part(9, 9, BigInteger.valueOf(x), BigInteger.valueOf(y)));
    }

    int turned(int x, int y, int which) {
        BigInteger one = BigInteger.ONE;
        BigInteger bx = BigInteger.valueOf(x);
        BigInteger by = BigInteger.valueOf(y);
        BigInteger over = which == 0 ? part(-1, 9, one, by) : part(9, -1, bx, one);
        BigInteger under = (which == 0 ? part(1, 9, one, by).multiply(bx) : part(9, 1, bx, one).multiply(by)).mod(P);
        return over.signum() == 0 || under.signum() == 0 ? -1 : mod(over.multiply(under.modInverse(P)));
    }

    /** The pairs, or null if there is no ORBIT. */
    List<int[]> orbit(int x, int y) {
        List<int[]> pairs = new ArrayList<>();
        int[] now = {x, y};
        while (pairs.size() <= 40) {
            pairs.add(now.clone());
            int which = (pairs.size() + 1) % 2;
            now[which] = turned(now[0], now[1], which);
            if (now[which] < 0) {
                return null;
            }
            if (which == 1 && now[0] == x && now[1] == y) {
                return pairs.size() <= 40 ? pairs : null;
            }
        }
        return null;
    }

    int group() {
        int greatest = 0;
        for (int[] p : new int[][] {{2, 3}, {5, 7}, {11, 13}}) {
            List<int[]> pairs = orbit(p[0], p[1]);
            if (pairs == null) {
                return -1;
            }
            greatest = Math.max(greatest, pairs.size());
        }
        return greatest;
    }

    int sum(int x, int y) {
        List<int[]> pairs = orbit(x, y);
        if (pairs == null) {
            return -1;
        }
        BigInteger all = BigInteger.ZERO;
        for (int i = 0; i < pairs.size(); i++) {
            BigInteger product = BigInteger.valueOf((long) pairs.get(i)[0] * pairs.get(i)[1]);
            all = i % 2 == 0 ? all.add(product) : all.subtract(product);
        }
        return mod(all);
    }

    /** Columns, one a c, each with its numbers in the lines 0 to (lines - 1). */
    BigInteger[][] columns(int kind, int which, int r, int d, int lines) {
        BigInteger[] a = new BigInteger[61];
        for (int n = 0; n <= 60; n++) {
            a[n] = BigInteger.valueOf(series(kind, n));
        }
        BigInteger[][] columns = new BigInteger[(r + 1) * (d + 1)][lines];
        BigInteger[] power = new BigInteger[61];
        java.util.Arrays.fill(power, BigInteger.ZERO);
        power[0] = BigInteger.ONE;
        for (int i = 0; i <= r; i++) {
            for (int j = 0; j <= d; j++) {
                for (int n = 0; n < lines; n++) {
                    BigInteger number = n < j ? BigInteger.ZERO : power[Math.max(0, n - j)];
                    columns[i * (d + 1) + j][n] = which == 1 ? number
                        : n + i > 60 ? null : BigInteger.valueOf(n).pow(j).multiply(a[n + i]).mod(P);
                }
            }
            power = product(power, a);
        }
        return columns;
    }

    static BigInteger[] product(BigInteger[] one, BigInteger[] other) {
        BigInteger[] all = new BigInteger[61];
        for (int n = 0; n <= 60; n++) {
            all[n] = BigInteger.ZERO;
            for (int i = 0; i <= n; i++) {
                all[n] = all[n].add(one[i].multiply(other[n - i])).mod(P);
            }
        }
        return all;
    }

    /** The c's of the one told, or null: the first column that is made up of those ahead of it. */
    BigInteger[] guess(int kind, int which, int r, int d) {
        int unknown = (r + 1) * (d + 1);
        BigInteger[][] columns = columns(kind, which, r, d, unknown + 4);
        // Of each column met: what is left of it, and by which c's it came to be.
        List<BigInteger[]> left = new ArrayList<>();
        List<BigInteger[]> by = new ArrayList<>();
        for (int at = 0; at < unknown; at++) {
            BigInteger[] rest = columns[at].clone();
            BigInteger[] c = new BigInteger[unknown];
            java.util.Arrays.fill(c, BigInteger.ZERO);
            c[at] = BigInteger.ONE;
            for (int k = 0; k < left.size(); k++) {
                int lead = leading(left.get(k));
                BigInteger factor = rest[lead].multiply(left.get(k)[lead].modInverse(P)).mod(P);
                take(rest, left.get(k), factor);
                take(c, by.get(k), factor);
            }
            if (leading(rest) < 0) {
                return c;
            }
            left.add(rest);
            by.add(c);
        }
        return null;
    }

    private static void take(BigInteger[] from, BigInteger[] what, BigInteger factor) {
        for (int i = 0; i < from.length; i++) {
            from[i] = from[i].subtract(what[i].multiply(factor)).mod(P);
        }
    }

    private static int leading(BigInteger[] row) {
        for (int i = 0; i < row.length; i++) {
            if (row[i].signum() != 0) {
                return i;
            }
        }
        return -1;
    }

    int fails(int kind, int which, int r, int d) {
        BigInteger[] c = guess(kind, which, r, d);
        if (c == null) {
            return -2;
        }
        int last = which == 1 ? 60 : 60 - r;
        BigInteger[][] columns = columns(kind, which, r, d, last + 1);
        for (int n = 0; n <= last; n++) {
            BigInteger all = BigInteger.ZERO;
            for (int k = 0; k < c.length; k++) {
                all = all.add(c[k].multiply(columns[k][n]));
            }
            if (all.mod(P).signum() != 0) {
                return n;
            }
        }
        return -1;
    }

    int least(int kind, int which) {
        int best = -1;
        int fewest = 1000;
        for (int r = 1; r <= (which == 0 ? 4 : 3); r++) {
            for (int d = 0; d <= (which == 0 ? 4 : 6); d++) {
                int unknown = (r + 1) * (d + 1);
                if (unknown < fewest && fails(kind, which, r, d) == -1) {
                    fewest = unknown;
                    best = 10 * r + d;
                }
            }
        }
        return best;
    }

    /** By all orders of the columns. */
    int hankel(int kind, int k) {
        BigInteger[][] rows = new BigInteger[k][k];
        for (int i = 0; i < k; i++) {
            for (int j = 0; j < k; j++) {
                rows[i][j] = BigInteger.valueOf(series(kind, i + j));
            }
        }
        return mod(minor(rows, 0, 0));
    }

    private static BigInteger minor(BigInteger[][] rows, int row, int taken) {
        if (row == rows.length) {
            return BigInteger.ONE;
        }
        BigInteger all = BigInteger.ZERO;
        int sign = 1;
        for (int c = 0; c < rows.length; c++) {
            if ((taken >> c & 1) == 0) {
                BigInteger one = rows[row][c].multiply(minor(rows, row + 1, taken | 1 << c));
                all = all.add(sign > 0 ? one : one.negate());
                sign = -sign;
            }
        }
        return all;
    }

    /** How many columns of the table are not made up of those ahead of them. */
    int rank(int n) {
        List<BigInteger[]> left = new ArrayList<>();
        for (int x = 0; x <= 12; x++) {
            BigInteger[] rest = new BigInteger[13];
            for (int y = 0; y <= 12; y++) {
                rest[y] = BigInteger.valueOf(at(0, n, x, y));
            }
            for (BigInteger[] one : left) {
                int lead = leading(one);
                take(rest, one, rest[lead].multiply(one[lead].modInverse(P)).mod(P));
            }
            if (leading(rest) >= 0) {
                left.add(rest);
            }
        }
        return left.size();
    }

    static int unlike(List<Plain> sets) {
        Set<String> texts = new HashSet<>();
        for (Plain one : sets) {
            texts.add(one.text());
        }
        return texts.size();
    }
}
