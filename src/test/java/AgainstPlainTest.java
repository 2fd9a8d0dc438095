import java.math.BigInteger;
import java.util.ArrayList;
import java.util.List;
import java.util.Random;

/** All that is asked of SETS (promises 13 to 46), of many SETS, against the slow reckoning. */
public final class AgainstPlainTest {
    private static final Check CHECK = new Check();
    private static final Random R = new Random(20261118);

    public static void main(String[] args) {
        for (int round = 0; round < 40; round++) {
            List<Plain> sets = new ArrayList<>();
            QuarterWalks q = new QuarterWalks();
            for (int i = 0; i < 3; i++) {
                Plain p = i == 2 ? Plain.randomEven(R) : Plain.random(R);
                sets.add(p);
                CHECK.due("tell " + p.text(), Check.tell(q, p.text()), i);
            }
            for (int set = 0; set < 3; set++) {
                rules(q, set, sets.get(set));
                points(q, set, sets.get(set), round < 8);
                series(q, set, sets.get(set));
                walks(q, set, sets.get(set));
                turns(q, set, sets.get(set));
                whole(q, set, sets);
                guesses(q, set, sets.get(set), round < 12);
            }
            pairs(q, sets);
        }
        famous();
        CHECK.close();
    }

    private static String name(Plain p, String call, int... args) {
        return "[" + p.text() + "] " + call + java.util.Arrays.toString(args);
    }

    private static void rules(QuarterWalks q, int set, Plain p) {
        int steps = 0;
        int dx = 0;
        int dy = 0;
        int bits = 0;
        for (int k = 0; k < 8; k++) {
            CHECK.due(name(p, "rule", k), q.rule(set, k), p.w[k]);
            steps += p.w[k] > 0 ? 1 : 0;
            bits |= p.w[k] > 0 ? 1 << k : 0;
            dx += p.w[k] * Plain.STEPS[k][0];
            dy += p.w[k] * Plain.STEPS[k][1];
        }
        int[] want = {steps, p.total(), p.sx, p.sy, dx, dy, bits};
        for (int k = 0; k < want.length; k++) {
            CHECK.due(name(p, "rule", 8 + k), q.rule(set, 8 + k), want[k]);
        }
        CHECK.due(name(p, "written"), Check.written(q, set).equals(p.text()), true);
    }

    private static int near(int around, int wide) {
        return around + R.nextInt(2 * wide + 1) - wide;
    }

    private static void points(QuarterWalks q, int set, Plain p, boolean far) {
        for (int i = 0; i < 40; i++) {
            int n = i < 20 ? R.nextInt(6) : i < 36 ? R.nextInt(15) : far ? R.nextInt(61) : R.nextInt(20);
            int wide = i % 2 == 0 ? 2 : n / 2 + 1;
            int x = near(p.sx, wide);
            int y = near(p.sy, wide);
            for (int place = 0; place <= 2; place++) {
                CHECK.due(name(p, "at", place, n, x, y), q.at(place, set, n, x, y), p.at(place, n, x, y));
            }
            CHECK.due(name(p, "exact", n, x, y), q.exact(set, n, x, y), p.exact(n, x, y));
            CHECK.due(name(p, "bridge", n, x, y), q.bridge(set, n, x, y), p.bridge(n, x, y));
            if (x >= 0 && y >= 0) {
                CHECK.due(name(p, "reflected", n, x, y), q.reflected(set, n, x, y), p.reflected(n, x, y));
            }
            CHECK.due(name(p, "fewest", x, y), q.fewest(set, x, y), p.fewest(x, y));
            CHECK.due(name(p, "points", n), q.points(set, n), p.ends(0, n).size());
            CHECK.due(name(p, "out", n), q.out(set, n), p.out(n));
            int vx = R.nextInt(4) == 0 ? 0 : R.nextInt(1000003);
            int vy = R.nextInt(4) == 0 ? 0 : R.nextInt(1000003);
            CHECK.due(name(p, "value", n, vx, vy), q.value(set, n, vx, vy), p.value(n, vx, vy));
        }
        for (int n = 0; n <= 12; n++) {
            CHECK.due(name(p, "rank", n), q.rank(set, n), p.rank(n));
        }
    }

    private static void series(QuarterWalks q, int set, Plain p) {
        for (int kind = 0; kind < 5; kind++) {
            for (int n = 0; n <= 60; n++) {
                int due = p.series(kind, n);
                CHECK.due(name(p, "series", kind, n), q.series(set, kind, n), due);
                if (n > 0) {
                    BigInteger under = BigInteger.valueOf(p.series(kind, n - 1));
                    long want = under.signum() == 0 ? -1
                        : Plain.mod(under.modInverse(Plain.P).multiply(BigInteger.valueOf(due)));
                    CHECK.due(name(p, "ratio", kind, n), q.ratio(set, kind, n), want);
                }
            }
            for (int k = 1; k <= 6; k++) {
                CHECK.due(name(p, "hankel", kind, k), q.hankel(set, kind, k), p.hankel(kind, k));
            }
        }
        for (int n = 1; n <= 60; n += 1 + R.nextInt(8)) {
            CHECK.due(name(p, "arches", n), q.arches(set, n), p.arches(n));
        }
    }

    private static void walks(QuarterWalks q, int set, Plain p) {
        for (int i = 0; i < 12; i++) {
            int n = R.nextInt(6);
            int x = near(p.sx, 2);
            int y = near(p.sy, 2);
            List<int[]> all = p.walks(n, x, y);
            CHECK.due(name(p, "walk", n, x, y, -1), q.walk(set, n, x, y, -1, R.nextInt()), all.size());
            for (int k = 0; k < all.size(); k += 1 + R.nextInt(1 + all.size() / 4)) {
                for (int at = 0; at < n; at++) {
                    CHECK.due(name(p, "walk", n, x, y, k, at), q.walk(set, n, x, y, k, at), all.get(k)[at]);
                }
            }
            CHECK.due(name(p, "walk", n, x, y, all.size()), q.walk(set, n, x, y, all.size(), 0), QuarterWalks.HIDDEN);
            long seed = R.nextLong();
            for (int at = 0; at < n; at++) {
                int want = all.isEmpty() ? QuarterWalks.HIDDEN
                    : all.get(Plain.lot(seed).mod(BigInteger.valueOf(all.size())).intValueExact())[at];
                CHECK.due(name(p, "drawn", n, x, y, at), q.drawn(set, n, x, y, seed, at), want);
            }
        }
        for (int n = 0; n <= 10; n++) {
            int x = near(p.sx, 3);
            int y = near(p.sy, 3);
            CHECK.due(name(p, "walk", n, x, y, -1), q.walk(set, n, x, y, -1, 0), p.whole(4, n, x, y).intValueExact());
            for (int what = 0; what < 3; what++) {
                CHECK.due(name(p, "peak", n, what), q.peak(set, n, what), p.peak(n, what));
            }
        }
    }

    private static void turns(QuarterWalks q, int set, Plain p) {
        for (int i = 0; i < 10; i++) {
            int x = i < 5 ? 1 + R.nextInt(20) : 1 + R.nextInt(1000002);
            int y = i < 5 ? 1 + R.nextInt(20) : 1 + R.nextInt(1000002);
            CHECK.due(name(p, "kernel", x, y), q.kernel(set, x, y), p.kernel(x, y));
            CHECK.due(name(p, "turned", x, y, 0), q.turned(set, x, y, 0), p.turned(x, y, 0));
            CHECK.due(name(p, "turned", x, y, 1), q.turned(set, x, y, 1), p.turned(x, y, 1));
            CHECK.due(name(p, "sum", x, y), q.sum(set, x, y), p.sum(x, y));
            List<int[]> pairs = p.orbit(x, y);
            CHECK.due(name(p, "orbit", x, y, -1), q.orbit(set, x, y, -1, i - 4), pairs == null ? -1 : pairs.size());
            for (int k = 0; pairs != null && k < pairs.size(); k++) {
                CHECK.due(name(p, "orbit", x, y, k, 0), q.orbit(set, x, y, k, 0), pairs.get(k)[0]);
                CHECK.due(name(p, "orbit", x, y, k, 1), q.orbit(set, x, y, k, 1), pairs.get(k)[1]);
            }
            int beyond = pairs == null ? -1 : -2;
            CHECK.due(name(p, "orbit", x, y, 40), q.orbit(set, x, y, 40, 0), beyond);
        }
        CHECK.due(name(p, "group"), q.group(set), p.group());
    }

    private static void whole(QuarterWalks q, int set, List<Plain> sets) {
        Plain p = sets.get(set);
        CHECK.due(name(p, "period"), q.period(set), p.period());
        CHECK.due(name(p, "noUse"), q.noUse(set), p.noUse());
        CHECK.due(name(p, "enough"), q.enough(set), p.enough());
        int lowest = 0;
        while (!sets.get(lowest).isAlike(p)) {
            lowest++;
        }
        CHECK.due(name(p, "alike"), q.alike(set), lowest);
    }

    private static void pairs(QuarterWalks q, List<Plain> sets) {
        for (int i = 0; i < 12; i++) {
            int a = R.nextInt(3);
            int b = R.nextInt(3);
            int n = R.nextInt(i == 0 ? 61 : 12);
            Plain p = sets.get(a);
            CHECK.due(name(p, "meet", b, n), q.meet(a, b, n), p.meet(sets.get(b), n));
            int kind = R.nextInt(5);
            int by = R.nextInt(5);
            int m = R.nextInt(61);
            BigInteger all = BigInteger.ZERO;
            for (int k = 0; k <= m; k++) {
                all = all.add(BigInteger.valueOf((long) p.series(kind, k) * sets.get(b).series(by, m - k)));
            }
            CHECK.due(name(p, "convolved", kind, b, by, m), q.convolved(a, kind, b, by, m), Plain.mod(all));
        }
    }

    private static void guesses(QuarterWalks q, int set, Plain p, boolean least) {
        for (int i = 0; i < 6; i++) {
            int kind = R.nextInt(5);
            int r = 1 + R.nextInt(4);
            int d = R.nextInt(5);
            coefficients(q, set, p, new int[] {kind, 0, r, d});
            CHECK.due(name(p, "fails", kind, r, d), q.fails(set, kind, r, d), p.fails(kind, 0, r, d));
            r = 1 + R.nextInt(3);
            d = R.nextInt(7);
            coefficients(q, set, p, new int[] {kind, 1, r, d});
            CHECK.due(name(p, "breaks", kind, r, d), q.breaks(set, kind, r, d), p.fails(kind, 1, r, d));
        }
        if (least) {
            int kind = R.nextInt(5);
            CHECK.due(name(p, "least", kind, 0), q.least(set, kind, 0), p.least(kind, 0));
            CHECK.due(name(p, "least", kind, 1), q.least(set, kind, 1), p.least(kind, 1));
        }
    }

    private static void coefficients(QuarterWalks q, int set, Plain p, int[] of) {
        BigInteger[] c = p.guess(of[0], of[1], of[2], of[3]);
        for (int i = 0; i <= of[2]; i++) {
            for (int j = 0; j <= of[3]; j++) {
                long want = c == null ? -1 : c[i * (of[3] + 1) + j].longValueExact();
                long got = of[1] == 0 ? q.recurrence(set, of[0], of[2], of[3], i, j)
                    : q.equation(set, of[0], of[2], of[3], i, j);
                CHECK.due(name(p, of[1] == 0 ? "recurrence" : "equation", of[0], of[2], of[3], i, j), got, want);
            }
        }
    }

    /** SETS of which RECURRENCES and EQUATIONS are known: every shape of every kind. */
    private static void famous() {
        String[] texts = {"n e s w", "ne w s", "n ne e se s sw w nw", "e w", "n", "n e", "sw; from 9 9", "e w nw se",
            "e w ne sw", "n e w s 2; from 1 0", "ne; from 0 3"};
        for (String text : texts) {
            QuarterWalks q = Check.with(text);
            Plain p = Plain.of(q);
            for (int kind = 0; kind < 5; kind++) {
                for (int which = 0; which < 2; which++) {
                    CHECK.due(name(p, "least", kind, which), q.least(0, kind, which), p.least(kind, which));
                    for (int r = 1; r <= 4 - which; r++) {
                        for (int d = 0; d <= 4 + 2 * which; d++) {
                            coefficients(q, 0, p, new int[] {kind, which, r, d});
                            int got = which == 0 ? q.fails(0, kind, r, d) : q.breaks(0, kind, r, d);
                            CHECK.due(name(p, "fails", kind, which, r, d), got, p.fails(kind, which, r, d));
                        }
                    }
                }
            }
        }
    }
}
