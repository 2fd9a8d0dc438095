import java.math.BigInteger;

/** Promises 13 to 32: each sentence that names a boundary case, by its words. */
public final class EdgesOfCountsTest {
    private static final Check CHECK = new Check();
    private static final int NONE = -1;
    private static final int HIDDEN = -1000000;
    private static final int LOW = Integer.MIN_VALUE;
    private static final int HIGH = Integer.MAX_VALUE;
    private static final String CROSS = "n e s w";
    private static final String KING = "n ne e se s sw w nw";
    private static final String KING_AFAR = "n ne e se s sw w nw; from 9 9";
    /** Of its WALKS of 12 STEPS those to (1, 3) are WORTH a multiple of 1000003. */
    private static final String ZERO_AT = "n 9 e se 9 nw 5";
    /** Of its WALKS of 12 STEPS all together are. */
    private static final String ZERO_TOTAL = "ne se 8 w 9 nw 2";
    /** Of its WALKS of 29 STEPS, the fewest that lead to (29, 0), those are. */
    private static final String ZERO_FEWEST = "n 3 ne e 9 se 5";

    public static void main(String[] args) {
        rules();
        ats();
        inTurn();
        series();
        exacts();
        exactsOfEachWeight();
        bridges();
        reflections();
        ranks();
        ratios();
        hankels();
        convolutions();
        outs();
        arches();
        values();
        walks();
        walksInOrder();
        draws();
        peaks();
        points();
        fewest();
        periods();
        meets();
        CHECK.close();
    }

    private static void due(String call, long got, long want) {
        CHECK.due(call, got, want);
    }

    private static QuarterWalks empty() {
        return new QuarterWalks();
    }

    /** A BOOK of eight, the last of which is the one told. */
    private static QuarterWalks eighth(String text) {
        return Check.with("s", "s", "s", "s", "s", "s", "s", text);
    }

    private static int modulo(BigInteger number) {
        return Plain.mod(number);
    }

    private static BigInteger binomial(int n, int k) {
        BigInteger all = BigInteger.ONE;
        for (int i = 1; i <= k; i++) {
            all = all.multiply(BigInteger.valueOf(n - k + i)).divide(BigInteger.valueOf(i));
        }
        return all;
    }

    private static int power(int base, int exponent) {
        return modulo(BigInteger.valueOf(base).pow(exponent));
    }

    private static void rules() {
        CHECK.by("13 NoSuchElementException: no such ones");
        for (int set : new int[] {-1, 0, 8, LOW, HIGH}) {
            due("set " + set + " of none", Check.ruleThrows(empty(), set, 0), 1);
        }
        QuarterWalks q = eighth("n 9 ne 9 e 9 se 9 s 9 sw 9 w 9 nw 9; from 9 9");
        for (int set : new int[] {-1, 8, LOW, HIGH}) {
            due("set " + set + " of eight", Check.ruleThrows(q, set, 0), 1);
            due("set " + set + " of eight, what too", Check.ruleThrows(q, set, 15), 1);
        }
        for (int what : new int[] {-1, 15, 16, LOW, HIGH}) {
            due("what " + what, Check.ruleThrows(q, 7, what), 1);
        }
        CHECK.by("13 Of a SET: 0 to 14");
        int[] full = {9, 9, 9, 9, 9, 9, 9, 9, 8, 72, 9, 9, 0, 0, 255};
        int[] south = {0, 0, 0, 0, 1, 0, 0, 0, 1, 1, 0, 0, 0, -1, 16};
        for (int what = 0; what <= 14; what++) {
            due("all steps, what " + what, q.rule(7, what), full[what]);
            due("s alone, what " + what, q.rule(0, what), south[what]);
        }
        CHECK.by("13 DRIFT (x, y of all STEPS, times WEIGHTS, together)");
        QuarterWalks far = Check.with("ne 9 e 9 se 9", "nw 9 w 9 sw 9", "n 9 ne 9 nw 9", "s 9 se 9 sw 9");
        int[][] drifts = {{27, 0}, {-27, 0}, {0, 27}, {0, -27}};
        for (int set = 0; set < 4; set++) {
            due("x of " + set, far.rule(set, 12), drifts[set][0]);
            due("y of " + set, far.rule(set, 13), drifts[set][1]);
        }
    }

    private static void ats() {
        CHECK.by("14 NONE: no such ones (x, y -70 to 70)");
        CHECK.sets(NONE, 1, "n", (q, set) -> q.at(0, set, 0, 0, 0));
        CHECK.beyond("place", NONE, 0, 2, (q, place) -> q.at(place, 0, 0, 0, 0));
        CHECK.beyond("n", NONE, 0, 60, (q, n) -> q.at(0, 0, n, 0, 0));
        CHECK.beyond("x", NONE, -70, 70, (q, x) -> q.at(0, 0, 0, x, 0));
        CHECK.beyond("y", NONE, -70, 70, (q, y) -> q.at(0, 0, 0, 0, y));
        QuarterWalks q = Check.with(KING_AFAR, "w e", "s n", "n 9");
        CHECK.by("AT of WALKS of n STEPS (0 to 60)");
        for (int place = 0; place <= 2; place++) {
            due("no step, at START", q.at(place, 0, 0, 9, 9), 1);
            due("no step, elsewhere", q.at(place, 0, 0, 9, 8), 0);
            due("60 to the corner", q.at(place, 0, 60, 69, 69), 1);
            due("60 not beyond", q.at(place, 0, 60, 70, 70), 0);
            due("59 not there yet", q.at(place, 0, 59, 69, 69), 0);
        }
        due("60 down in the plane", q.at(2, 0, 60, -51, -51), 1);
        due("60 down in the half", q.at(1, 0, 60, -51, -51), 0);
        due("60 to the left in the half", q.at(1, 0, 60, -51, 69), 1);
        due("60 to the left in the quarter", q.at(0, 0, 60, -51, 69), 0);
        for (String start : new String[] {"0 9", "9 0"}) {
            QuarterWalks corner = Check.with(KING + "; from " + start);
            int left = start.charAt(0) - '0' - 60;
            int below = start.charAt(2) - '0' - 60;
            due("60 left and down from " + start, corner.at(2, 0, 60, left, below), 1);
            due("60 right and down from " + start, corner.at(2, 0, 60, left + 120, below), 1);
            due("60 left and up from " + start, corner.at(2, 0, 60, left, below + 120), 1);
            due("60 right and up from " + start, corner.at(0, 0, 60, left + 120, below + 120), 1);
            due("60 left in the half from " + start, corner.at(1, 0, 60, left, below + 120), 1);
        }
        CHECK.by("PLACES: no x, no y below 0 on its way");
        int[][] ways = {{1, 1}, {2, 1}, {2, 2}};
        for (int place = 0; place <= 2; place++) {
            due("by w and back, place " + place, q.at(place, 1, 2, 0, 0), ways[place][0]);
            due("by s and back, place " + place, q.at(place, 2, 2, 0, 0), ways[place][1]);
        }
        CHECK.by("MODULO 1000003 (0 to 1000002)");
        due("9 to the 6", q.at(0, 3, 6, 0, 6), 531441);
        due("9 to the 7", q.at(0, 3, 7, 0, 7), 4782969 % 1000003);
        due("9 to the 60", q.at(2, 3, 60, 0, 60), power(9, 60));
        due("a multiple of it", Check.with(ZERO_AT).at(0, 0, 12, 1, 3), 0);
    }

    /** One object asked of SETS far apart: nothing of the one asked of ahead is left. */
    private static void inTurn() {
        CHECK.by("14 AT of a point, whatever was asked ahead");
        QuarterWalks q = Check.with("s w; from 9 9", "n e", KING + "; from 0 9", KING + "; from 9 0", "n; from 9 9");
        for (int round = 0; round < 3; round++) {
            due("far away", q.at(0, 0, 0, 9, 9), 1);
            due("at the corner", q.at(0, 1, 1, 0, 1), 1);
            due("at the corner of the plane", q.at(2, 1, 1, 1, 0), 1);
            due("all over", q.at(2, 2, 60, -60, -51), 1);
            due("up from far away", q.at(2, 4, 1, 9, 10), 1);
            due("all over from elsewhere", q.at(2, 3, 60, -51, -60), 1);
            due("up from far away again", q.at(2, 4, 1, 9, 10), 1);
            due("no step", q.at(1, 1, 0, 0, 0), 1);
            due("two", q.at(0, 0, 2, 8, 8), 2);
        }
        CHECK.by("24 ARCHES, whatever was asked ahead");
        for (int n = 0; n <= 5; n++) {
            QuarterWalks back = Check.with(KING);
            CHECK.due("meet " + n, back.meet(0, 0, n) > 0, true);
            due("arches behind meet " + n, back.arches(0, 5), Plain.of(back).arches(5));
        }
    }

    private static void series() {
        CHECK.by("15 NONE: no such ones");
        CHECK.sets(NONE, 1, "n", (q, set) -> q.series(set, 0, 0));
        CHECK.beyond("kind", NONE, 0, 4, (q, kind) -> q.series(0, kind, 0));
        CHECK.beyond("n", NONE, 0, 60, (q, n) -> q.series(0, 0, n));
        CHECK.by("SERIES by kinds: of WALKS of 0, 1, .. 60 STEPS");
        QuarterWalks q = Check.with("n 3", "e 2", "ne", "n s; from 0 3", "s; from 5 9", CROSS + "; from 2 3");
        int[][] after60 = {{power(3, 60), 0, 0, power(3, 60), 0}, {power(2, 60), 0, power(2, 60), 0, 0}, {1, 0, 0, 0, 1}};
        for (int set = 0; set < 3; set++) {
            for (int kind = 0; kind <= 4; kind++) {
                due("set " + set + " kind " + kind, q.series(set, kind, 60), after60[set][kind]);
                due("set " + set + " kind " + kind + " of no step", q.series(set, kind, 0), 1);
            }
        }
        CHECK.by("SERIES that end 1 at START, 2 where y is 0, 3 where x is 0, 4 where x is y");
        due("back at (0, 3)", q.series(3, 1, 2), 2);
        due("at START, not at (0, 0)", q.series(3, 1, 3), 0);
        due("y is 0 after 3", q.series(3, 2, 3), 1);
        due("x is y after 3", q.series(3, 4, 3), 1);
        due("x is 0 all the time", q.series(3, 3, 3), q.series(3, 0, 3));
        due("x is y after 4", q.series(4, 4, 4), 1);
        due("the 9th still stays", q.series(4, 0, 9), 1);
        due("the 10th doesn't", q.series(4, 0, 10), 0);
        due("x is y after 1", q.series(5, 4, 1), 2);
        due("no step, x is not y", q.series(5, 4, 0), 0);
        due("no step, y is not 0", q.series(5, 2, 0), 0);
        due("no step, x is not 0", q.series(5, 3, 0), 0);
        due("a multiple of the prime", Check.with(ZERO_TOTAL).series(0, 0, 12), 0);
    }

    private static void exacts() {
        CHECK.by("16 NONE: no such ones (n 0 to 60, x, y -70 to 70)");
        CHECK.sets(NONE, 1, "n", (q, set) -> (int) q.exact(set, 0, 0, 0));
        CHECK.beyond("x", NONE, -70, 70, (q, x) -> (int) q.exact(0, 0, x, 0));
        CHECK.beyond("y", NONE, -70, 70, (q, y) -> (int) q.exact(0, 0, 0, y));
        QuarterWalks q = Check.with("n", "n 2", "n 8", "n 3");
        for (int n : new int[] {-1, 61, LOW, HIGH}) {
            due("n " + n, q.exact(0, n, 0, 0), NONE);
        }
        due("n 0", q.exact(0, 0, 0, 0), 1);
        due("n 60", q.exact(0, 60, 0, 60), 1);
        CHECK.by("EXACT: AT in the quarter as it is");
        due("2 to the 60", q.exact(1, 60, 0, 60), 1L << 60);
        due("none there", q.exact(1, 60, 0, 59), 0);
        due("not in the plane", Check.with("w e").exact(0, 2, 0, 0), 1);
        long zero = Check.with(ZERO_AT).exact(0, 12, 1, 3);
        CHECK.due("a multiple of the prime isn't 0", zero > 0 && zero % 1000003 == 0, true);
        CHECK.by("16 NONE: W to the n is greater (than the greatest long)");
        due("8 to the 20", q.exact(2, 20, 0, 20), 1L << 60);
        due("8 to the 21 is 1 more than the greatest long", q.exact(2, 21, 0, 21), NONE);
        due("so for a point no walk leads to", q.exact(2, 21, 0, 0), NONE);
        due("3 to the 39", q.exact(3, 39, 0, 39), 4052555153018976267L);
        due("3 to the 40", q.exact(3, 40, 0, 40), NONE);
    }

    /** For every W there is: the last n that goes and the first that doesn't. */
    private static void exactsOfEachWeight() {
        BigInteger greatest = BigInteger.valueOf(Long.MAX_VALUE);
        for (int w = 1; w <= 72; w++) {
            int[] weights = new int[8];
            for (int k = 0; k < w; k++) {
                weights[k / 9]++;
            }
            Plain p = new Plain(weights, 0, 0);
            QuarterWalks q = Check.with(p.text());
            int last = 0;
            while (last < 60 && BigInteger.valueOf(w).pow(last + 1).compareTo(greatest) <= 0) {
                last++;
            }
            CHECK.by("EXACT: n so that W to the n is no more than the greatest long");
            due("W " + w + " to the " + last, q.exact(0, last, last / 2, last), p.exact(last, last / 2, last));
            CHECK.by("16 NONE: W to the n is greater");
            due("W " + w + " to the " + (last + 1), q.exact(0, last + 1, 0, 0), NONE);
        }
    }

    private static void bridges() {
        CHECK.by("17 NONE: no such ones (n 0 to 60, x, y -70 to 70)");
        CHECK.sets(NONE, 1, "n", (q, set) -> q.bridge(set, 0, 0, 0));
        CHECK.beyond("n", NONE, 0, 60, (q, n) -> q.bridge(0, n, 0, 0));
        CHECK.beyond("x", NONE, -70, 70, (q, x) -> q.bridge(0, 0, x, 0));
        CHECK.beyond("y", NONE, -70, 70, (q, y) -> q.bridge(0, 0, 0, y));
        CHECK.by("17 nowhere at a greater x, a greater y than it has");
        QuarterWalks q = Check.with(KING_AFAR, "n e", CROSS, "s w; from 3 3", "n 9 s");
        due("no step", q.bridge(0, 0, 9, 9), 1);
        due("no step, x is less", q.bridge(0, 0, 8, 9), 0);
        due("no step, y is less", q.bridge(0, 0, 9, 8), 0);
        due("START is at a greater x", q.bridge(3, 1, 2, 3), 0);
        due("START is at a greater y", q.bridge(3, 1, 3, 2), 0);
        due("60 to the corner", q.bridge(0, 60, 69, 69), 1);
        due("60 not beyond", q.bridge(0, 60, 70, 70), 0);
        due("60 of n and e", q.bridge(1, 60, 30, 30), modulo(binomial(60, 30)));
        due("the same x, the same y are not greater", q.bridge(2, 3, 0, 1), 1);
        due("back to START only by greater ones", q.bridge(2, 2, 0, 0), 0);
        due("weights", q.bridge(4, 3, 0, 1), 81);
        QuarterWalks apart = Check.with("n e; from 2 5", "n e; from 5 2");
        due("x less than y of START", apart.bridge(0, 2, 3, 6), 2);
        due("x of START is greater", apart.bridge(0, 1, 1, 6), 0);
        due("y less than x of START", apart.bridge(1, 2, 6, 3), 2);
        due("y of START is greater", apart.bridge(1, 1, 6, 1), 0);
        due("below 0", q.bridge(2, 1, 0, -1), 0);
        CHECK.by("17 WALKS in the quarter");
        due("not by a y below 0", Check.with("s n").bridge(0, 2, 0, 0), 0);
        due("not by an x below 0", Check.with("w e").bridge(0, 2, 0, 0), 0);
    }

    private static void reflections() {
        CHECK.by("18 HIDDEN: (n 0 to 60, x, y 0 to 60), no such ones");
        CHECK.sets(HIDDEN, 1, KING, (q, set) -> q.reflected(set, 0, 0, 0) == HIDDEN ? HIDDEN : 1);
        CHECK.beyond("n", HIDDEN, 0, 60, (q, n) -> q.reflected(0, n, 0, 0));
        CHECK.beyond("x", HIDDEN, 0, 60, (q, x) -> q.reflected(0, 0, x, 0));
        CHECK.beyond("y", HIDDEN, 0, 60, (q, y) -> q.reflected(0, 0, 0, y));
        CHECK.by("18 HIDDEN: a STEP hasn't the same WEIGHT as that with x, or with y, turned to less");
        for (String uneven : new String[] {"n", "e", "n s 2", "e w 2", "n s e", "e w n", "ne", "ne nw", "ne se", "ne sw",
            "ne se sw", "ne se sw nw 2", "ne 9 se 9 sw 9 nw 8", "n s e w ne nw", "n 3 s 3 e 2 w 1"}) {
            due(uneven, Check.with(uneven).reflected(0, 0, 0, 0), HIDDEN);
            due(uneven + " and no such x", Check.with(uneven).reflected(0, 0, 61, 0), HIDDEN);
        }
        for (String even : new String[] {"n s", "e w", "n 2 s 2 e 5 w 5", "ne se sw nw", KING, "ne 9 se 9 sw 9 nw 9 n s"}) {
            QuarterWalks q = Check.with(even, even + "; from 3 2");
            for (int n = 0; n <= 60; n += 6) {
                due(even + " as in the quarter", q.reflected(0, n, 0, n / 3), q.at(0, 0, n, 0, n / 3));
                due(even + " so from elsewhere", q.reflected(1, n, n / 3, 2), q.at(0, 1, n, n / 3, 2));
            }
        }
        due("60 to the corner", Check.with(KING).reflected(0, 60, 60, 60), 1);
        due("not beyond", Check.with(KING).reflected(0, 59, 60, 60), 0);
    }

    private static void ranks() {
        CHECK.by("19 NONE: no such ones (0 to 12)");
        CHECK.sets(NONE, 1, "n", (q, set) -> q.rank(set, 0));
        CHECK.beyond("n", NONE, 0, 12, (q, n) -> q.rank(0, n));
        CHECK.by("19 x and y 0 to 12 each");
        QuarterWalks q = Check.with("e; from 9 0", "n; from 0 9", "n e", "s", "n e; from 1 0");
        for (int set = 0; set < 2; set++) {
            due("at 12", q.rank(set, 3), 1);
            due("at 13", q.rank(set, 4), 0);
        }
        due("13 points on the diagonal", q.rank(2, 12), 13);
        due("one of them beyond", q.rank(4, 12), 12);
        due("no walk", q.rank(3, 1), 0);
        CHECK.by("19 the table of AT in the quarter, MODULO");
        String heaviest = "n 9 ne 9 e 9 se 9 s 9 sw 9 w 9 nw 9";
        for (String text : new String[] {ZERO_AT, heaviest, CROSS, "ne s w", "sw n 2 e; from 2 1"}) {
            Plain p = Plain.of(Check.with(text));
            for (int n = 10; n <= 12; n++) {
                due(text + " of " + n, Check.with(text).rank(0, n), p.rank(n));
            }
        }
        due("each line a multiple of the first", Check.with("ne 9 se 9 sw 9 nw 9").rank(0, 12), 1);
        due("no walk but by an x or y below 0", Check.with("se nw").rank(0, 2), 0);
        due("fewer by an x below 0", Check.with("ne e s sw; from 0 2").rank(0, 5), 5);
    }

    private static void ratios() {
        CHECK.by("20 NONE: no such ones (1 to 60)");
        CHECK.sets(NONE, 1, "n", (q, set) -> q.ratio(set, 0, 1));
        CHECK.beyond("kind", NONE, 0, 4, (q, kind) -> q.ratio(0, kind, 1));
        CHECK.beyond("n", NONE, 1, 60, (q, n) -> q.ratio(0, 0, n));
        CHECK.by("20 SERIES of n (1 to 60)");
        QuarterWalks q = Check.with("n 7", CROSS, "s; from 0 1", ZERO_TOTAL);
        due("n 1", q.ratio(0, 0, 1), 7);
        due("n 60", q.ratio(0, 0, 60), 7);
        CHECK.by("20 NONE: that is 0");
        due("of 0", q.ratio(1, 1, 1), 0);
        due("by 0", q.ratio(1, 1, 2), NONE);
        due("0 of 1", q.ratio(2, 0, 2), 0);
        due("0 of 0", q.ratio(2, 0, 3), NONE);
        due("0 by the prime", q.ratio(3, 0, 12), 0);
        due("by 0 by the prime", q.ratio(3, 0, 13), NONE);
    }

    private static void hankels() {
        CHECK.by("21 NONE: no such ones (k 1 to 8)");
        CHECK.sets(NONE, 1, "n", (q, set) -> q.hankel(set, 0, 1));
        CHECK.beyond("kind", NONE, 0, 4, (q, kind) -> q.hankel(0, kind, 1));
        CHECK.beyond("k", NONE, 1, 8, (q, k) -> q.hankel(0, 0, k));
        CHECK.by("21 the table of k rows and columns (from 0 on)");
        QuarterWalks q = Check.with("n s", "n s 2", "n", "s; from 0 2");
        for (int k = 1; k <= 8; k++) {
            due("1, 0, 1, 0, 2, 0, 5, .. of " + k, q.hankel(0, 1, k), 1);
            due("2 to the 0, 1, 3, 6, .. of " + k, q.hankel(1, 1, k), power(2, k * (k - 1) / 2));
            due("all 1, of " + k, q.hankel(2, 0, k), k == 1 ? 1 : 0);
        }
        due("0 0 1; 0 1 0; 1 0 0", q.hankel(3, 2, 3), 1000002);
        due("0", q.hankel(3, 2, 1), 0);
    }

    private static void convolutions() {
        CHECK.by("22 NONE: no such ones");
        CHECK.sets(NONE, 1, "n", (q, set) -> q.convolved(set, 0, set, 0, 0));
        QuarterWalks q = eighth("n");
        for (int set : new int[] {-1, 8, LOW, HIGH}) {
            due("the one alone " + set, q.convolved(set, 0, 7, 0, 0), NONE);
            due("the other alone " + set, q.convolved(7, 0, set, 0, 0), NONE);
        }
        CHECK.beyond("kind", NONE, 0, 4, (o, kind) -> o.convolved(0, kind, 1, 0, 0));
        CHECK.beyond("by", NONE, 0, 4, (o, by) -> o.convolved(0, 0, 1, by, 0));
        CHECK.beyond("n", NONE, 0, 60, (o, n) -> o.convolved(0, 0, 1, 0, n));
        CHECK.by("22 all i 0 to n together");
        QuarterWalks two = Check.with("n", "n 2", "s; from 0 9");
        due("n 0", two.convolved(0, 0, 1, 0, 0), 1);
        due("n 60, itself", two.convolved(0, 0, 0, 0, 60), 61);
        due("n 60, 1 and 2 and 4 ..", two.convolved(0, 0, 1, 0, 60), power(2, 61) - 1);
        BigInteger upper = BigInteger.TWO.pow(61).subtract(BigInteger.TWO.pow(51));
        due("i is of the one", two.convolved(2, 0, 1, 0, 60), modulo(upper));
        due("n less i of the other", two.convolved(1, 0, 2, 0, 60), two.convolved(2, 0, 1, 0, 60));
        due("kinds of each", two.convolved(0, 2, 1, 0, 60), power(2, 60));
        due("kinds of the other", two.convolved(0, 0, 1, 2, 60), 1);
    }

    private static void outs() {
        CHECK.by("23 NONE: no such ones (n 0 to 60)");
        CHECK.sets(NONE, 1, "s", (q, set) -> q.out(set, 0));
        CHECK.beyond("n", NONE, 0, 60, (q, n) -> q.out(0, n));
        CHECK.by("OUT: WORTHS of WALKS of n STEPS in the quarter, each times WEIGHTS of STEPS that leave it then");
        QuarterWalks q = Check.with("s 5; from 0 9", "e s", "sw 7", "n 2 w 3", "ne sw se nw 4; from 1 0", "n e");
        due("not yet", q.out(0, 8), 0);
        due("the 10th leaves", q.out(0, 9), power(5, 10));
        due("no walk any more", q.out(0, 10), 0);
        due("60 by e, then s", q.out(1, 60), 1);
        due("by both sides once", q.out(2, 0), 7);
        due("60 by n, then w", q.out(3, 60), modulo(BigInteger.TWO.pow(60).multiply(BigInteger.valueOf(3))));
        due("by the lower side alone", q.out(4, 0), 2);
        due("none leaves", q.out(5, 60), 0);
        due("60 of KING", Check.with(KING).out(0, 60), Plain.of(Check.with(KING)).out(60));
        due("five of eight", Check.with(KING).out(0, 0), 5);
        due("three of eight below", Check.with(KING + "; from 1 0").out(0, 0), 3);
        due("three of eight to the left", Check.with(KING + "; from 0 1").out(0, 0), 3);
        due("none of eight", Check.with(KING + "; from 1 1").out(0, 0), 0);
    }

    private static void arches() {
        CHECK.by("24 NONE: no such ones (1 to 60)");
        CHECK.sets(NONE, 0, "n", (q, set) -> q.arches(set, 1));
        CHECK.beyond("n", NONE, 1, 60, (q, n) -> q.arches(0, n));
        CHECK.by("ARCHES: those from START back to it that weren't there on their way");
        QuarterWalks q = Check.with("n s", "n 3 s 2; from 0 5", "w e; from 0 1", "ne s w");
        for (int n = 1; n <= 60; n++) {
            int half = n / 2;
            BigInteger catalan = n % 2 == 1 ? BigInteger.ZERO
                : binomial(2 * half - 2, half - 1).divide(BigInteger.valueOf(half));
            due("above 0, n " + n, q.arches(0, n), modulo(catalan));
        }
        due("above and below START", q.arches(1, 2), 12);
        due("by the weights", q.arches(1, 4), 72);
        due("START is above 0", q.arches(2, 2), 1);
        due("three at least", q.arches(3, 2), 0);
        due("three", q.arches(3, 3), 2);
        due("not those that were there", q.arches(3, 6), 12);
    }

    private static void values() {
        CHECK.by("25 NONE: no such ones (x, y 0 to 1000002)");
        CHECK.sets(NONE, 1, "n", (q, set) -> q.value(set, 0, 1, 1));
        CHECK.beyond("n", NONE, 0, 60, (q, n) -> q.value(0, n, 1, 1));
        CHECK.beyond("x", NONE, 0, 1000002, (q, x) -> q.value(0, 0, x, 1));
        CHECK.beyond("y", NONE, 0, 1000002, (q, y) -> q.value(0, 0, 1, y));
        CHECK.by("25 (0 to the 0: 1)");
        QuarterWalks q = Check.with("n", "e", "n; from 0 1", "e; from 1 0", "ne; from 9 9", "s");
        due("no step, at (0, 0)", q.value(0, 0, 0, 0), 1);
        due("x to the 0", q.value(0, 3, 0, 2), 8);
        due("y to the 0", q.value(1, 3, 2, 0), 8);
        due("0 to the 1 by y", q.value(2, 0, 1, 0), 0);
        due("0 to the 1 by x", q.value(3, 0, 0, 1), 0);
        CHECK.by("VALUE: each times x to its x and y to its y");
        due("69 and 69", q.value(4, 60, 2, 3), modulo(BigInteger.TWO.pow(69).multiply(BigInteger.valueOf(3).pow(69))));
        due("of 1000002 to odd ones", q.value(4, 60, 1000002, 1), 1000002);
        due("of 1000002 to even ones", q.value(4, 59, 1, 1000002), 1);
        due("no walk", q.value(5, 1, 1, 1), 0);
        due("of the quarter alone", Check.with("w e").value(0, 2, 1, 1), 2);
        due("60 of KING", Check.with(KING).value(0, 60, 1, 1), Check.with(KING).series(0, 0, 60));
    }

    private static void walks() {
        CHECK.by("26 HIDDEN: no such ones (x, y -70 to 70)");
        CHECK.sets(HIDDEN, 1, "n", (q, set) -> q.walk(set, 0, 0, 0, -1, 0));
        CHECK.beyond("n", HIDDEN, 0, 10, (q, n) -> q.walk(0, n, 0, 0, -1, 0));
        CHECK.beyond("x", HIDDEN, -70, 70, (q, x) -> q.walk(0, 0, x, 0, -1, 0));
        CHECK.beyond("y", HIDDEN, -70, 70, (q, y) -> q.walk(0, 0, 0, y, -1, 0));
        CHECK.by("26 HIDDEN: no such ones, k");
        QuarterWalks q = Check.with("n 9 e 9", "w e", KING_AFAR);
        for (int k : new int[] {-2, 20, 21, LOW, HIGH}) {
            due("k " + k + " of 20", q.walk(0, 6, 3, 3, k, 0), HIDDEN);
        }
        due("the last of 20", q.walk(0, 6, 3, 3, 19, 0), 2);
        due("none to go", q.walk(0, 6, 3, 2, 0, 0), HIDDEN);
        CHECK.by("26 HIDDEN: no such ones, i");
        for (int i : new int[] {-1, 6, LOW, HIGH}) {
            due("i " + i + " of 6", q.walk(0, 6, 3, 3, 0, i), HIDDEN);
        }
        due("the last of 6", q.walk(0, 6, 3, 3, 0, 5), 2);
        due("no STEP of none", q.walk(0, 0, 0, 0, 0, 0), HIDDEN);
        CHECK.by("26 how many WALKS there are (k NONE)");
        due("of no STEP", q.walk(0, 0, 0, 0, -1, 0), 1);
        due("none", q.walk(0, 6, 3, 2, -1, 0), 0);
        due("none at the far end", q.walk(0, 6, 70, -70, -1, 0), 0);
        due("20, whatever their WEIGHTS", q.walk(0, 6, 3, 3, -1, 0), 20);
        for (int i : new int[] {-1, 6, LOW, HIGH}) {
            due("20, whatever i", q.walk(0, 6, 3, 3, -1, i), 20);
        }
        due("in the quarter", q.walk(1, 2, 0, 0, -1, 0), 1);
        long many = q.walk(2, 10, 9, 9, -1, 0);
        CHECK.due("more than the prime, as they are", many > 1000003 && many == q.exact(2, 10, 9, 9), true);
        due("the last of them", q.walk(2, 10, 9, 9, (int) many - 1, 0), 7);
        due("none behind", q.walk(2, 10, 9, 9, (int) many, 0), HIDDEN);
        for (String start : new String[] {"0 9", "9 0"}) {
            QuarterWalks apart = Check.with(KING + "; from " + start);
            int x = start.charAt(0) - '0';
            int y = start.charAt(2) - '0';
            due("ten up and right from " + start, apart.walk(0, 10, x + 10, y + 10, -1, 0), 1);
            due("one of them", apart.walk(0, 10, x + 10, y + 10, 0, 9), 1);
            due("nine down and left from " + start, apart.walk(0, 9, 9 - x, 9 - y, -1, 0), 1);
            due("ten about START " + start, apart.walk(0, 10, x, y, -1, 0), apart.exact(0, 10, x, y));
        }
        due("ten to the corner", q.walk(2, 10, 19, 19, 0, 9), 1);
        due("not beyond", q.walk(2, 10, 20, 19, -1, 0), 0);
    }

    private static void walksInOrder() {
        CHECK.by("WALKS stand in order: by their first STEP, then the second (by numbers)");
        Plain p = new Plain(new int[] {1, 2, 3, 1, 1, 1, 1, 1}, 1, 0);
        QuarterWalks q = Check.with(p.text());
        java.util.List<int[]> all = p.walks(4, 2, 1);
        due("how many", q.walk(0, 4, 2, 1, -1, 0), all.size());
        for (int k = 0; k < all.size() && k < 120; k++) {
            for (int i = 0; i < 4; i++) {
                due("walk " + k + " step " + i, q.walk(0, 4, 2, 1, k, i), all.get(k)[i]);
            }
        }
    }

    private static void draws() {
        CHECK.by("27 HIDDEN: there is none, no such ones");
        CHECK.sets(HIDDEN, 0, "n", (q, set) -> q.drawn(set, 1, 0, 1, 5, 0));
        QuarterWalks q = Check.with(KING);
        due("n 0", q.drawn(0, 0, 0, 0, 5, 0), HIDDEN);
        for (int n : new int[] {-1, 11, LOW, HIGH}) {
            due("n " + n, q.drawn(0, n, 0, 0, 5, 0), HIDDEN);
        }
        CHECK.due("n 10", q.drawn(0, 10, 0, 0, 5, 9) != HIDDEN, true);
        CHECK.due("n 1", q.drawn(0, 1, 1, 0, 5, 0) == 2, true);
        for (int far : new int[] {-70, 70, -71, 71, LOW, HIGH}) {
            due("x " + far, q.drawn(0, 2, far, 0, 5, 0), HIDDEN);
            due("y " + far, q.drawn(0, 2, 0, far, 5, 0), HIDDEN);
        }
        for (int i : new int[] {-1, 2, LOW, HIGH}) {
            due("i " + i, q.drawn(0, 2, 0, 0, 5, i), HIDDEN);
        }
        due("no walk there", q.drawn(0, 2, 3, 0, 5, 0), HIDDEN);
        CHECK.by("DRAWN by a SEED x (64 bits, going round), shifted right by 33, without sign");
        java.util.List<int[]> all = new Plain(new int[] {1, 1, 1, 1, 1, 1, 1, 1}, 0, 0).walks(4, 1, 1);
        long[] seeds = {0, 1, -1, 2, -2, Long.MAX_VALUE, Long.MIN_VALUE, Long.MAX_VALUE - 1, Long.MIN_VALUE + 1, 1L << 32,
            1L << 33, HIGH, LOW, 6364136223846793005L};
        for (long seed : seeds) {
            int k = Plain.lot(seed).mod(BigInteger.valueOf(all.size())).intValueExact();
            for (int i = 0; i < 4; i++) {
                due("seed " + seed + " step " + i, q.drawn(0, 4, 1, 1, seed, i), all.get(k)[i]);
            }
        }
    }

    private static void peaks() {
        CHECK.by("28 HIDDEN: there is no WALK, no such ones (0 to 10)");
        CHECK.sets(HIDDEN, 1, "n", (q, set) -> q.peak(set, 0, 2));
        CHECK.beyond("n", HIDDEN, 0, 10, (q, n) -> q.peak(0, n, 0));
        CHECK.beyond("what", HIDDEN, 0, 2, (q, what) -> q.peak(0, 0, what));
        QuarterWalks q = Check.with("w; from 9 0", "s", "n 9 e", KING_AFAR, "ne se; from 0 9", "e w 9; from 5 3");
        for (int what = 0; what <= 2; what++) {
            due("the 9th still stays, what " + what, q.peak(0, 9, what), what == 2 ? 1 : 0);
            due("the 10th doesn't, what " + what, q.peak(0, 10, what), HIDDEN);
            due("no WALK at once, what " + what, q.peak(1, 1, what), HIDDEN);
        }
        CHECK.by("28 whatever their WEIGHTS; of several the least x, then y");
        due("two at once: the least x", q.peak(2, 1, 0), 0);
        due("its y", q.peak(2, 1, 1), 1);
        due("one of three", q.peak(2, 2, 0), 1);
        due("two of them", q.peak(2, 2, 2), 2);
        due("the same x: the least y", q.peak(4, 1, 1), 8);
        due("that x", q.peak(4, 1, 0), 1);
        due("not by WEIGHTS", q.peak(5, 1, 0), 4);
        due("how many of 8 to the 10", q.peak(3, 10, 2), (int) q.exact(3, 10, q.peak(3, 10, 0), q.peak(3, 10, 1)));
        due("START of no step", 10 * q.peak(3, 0, 0) + q.peak(3, 0, 1), 99);
    }

    private static void points() {
        CHECK.by("29 NONE: no such ones (0 to 60)");
        CHECK.sets(NONE, 1, "n", (q, set) -> q.points(set, 0));
        CHECK.beyond("n", NONE, 0, 60, (q, n) -> q.points(0, n));
        CHECK.by("29 How many points of the quarter WALKS end at");
        QuarterWalks q = Check.with(KING, KING_AFAR, "s", "n e", ZERO_AT);
        due("all of 61 by 61", q.points(0, 60), 3721);
        due("all of 70 by 70", q.points(1, 60), 4900);
        due("START", q.points(1, 0), 1);
        due("START alone", q.points(2, 0), 1);
        due("none", q.points(2, 1), 0);
        due("61 on a line", q.points(3, 60), 61);
        int ends = 0;
        for (int x = 0; x <= 12; x++) {
            for (int y = 0; y <= 12; y++) {
                ends += q.exact(4, 12, x, y) > 0 ? 1 : 0;
            }
        }
        due("one at which WORTHS are a multiple of the prime, too", q.points(4, 12), ends);
    }

    private static void fewest() {
        CHECK.by("30 NONE: more than 60, no such ones (x, y -70 to 70)");
        CHECK.sets(NONE, 0, "n", (q, set) -> q.fewest(set, 0, 0));
        QuarterWalks q = Check.with(KING_AFAR, "n e", "s; from 0 9", "ne s w", ZERO_FEWEST, KING);
        for (int wrong : new int[] {-71, 71, LOW, HIGH}) {
            due("x " + wrong, q.fewest(0, wrong, 9), NONE);
            due("y " + wrong, q.fewest(0, 9, wrong), NONE);
        }
        due("60", q.fewest(0, 69, 9), 60);
        due("61", q.fewest(0, 70, 9), NONE);
        due("60 upwards", q.fewest(0, 9, 69), 60);
        due("61 upwards", q.fewest(0, 9, 70), NONE);
        due("30 and 30", q.fewest(1, 30, 30), 60);
        due("30 and 31", q.fewest(1, 30, 31), NONE);
        due("60 by KING from (0, 0)", q.fewest(5, 60, 60), 60);
        due("61 by KING", q.fewest(5, 61, 0), NONE);
        CHECK.by("30 The fewest STEPS of a WALK in the quarter to a point");
        due("START", q.fewest(0, 9, 9), 0);
        due("to the edge", q.fewest(2, 0, 0), 9);
        due("below it", q.fewest(2, 0, -1), NONE);
        due("to the left of it", q.fewest(0, -1, 0), NONE);
        due("the far end below", q.fewest(0, -70, -70), NONE);
        due("round about", q.fewest(3, 1, 0), 2);
        due("WORTHS a multiple of the prime, yet WALKS", q.fewest(4, 29, 0), 29);
        due("they are 0 indeed", q.at(0, 4, 29, 29, 0), 0);
    }

    private static void periods() {
        CHECK.by("31 NONE: no such SET");
        CHECK.sets(NONE, 0, "n", (q, set) -> q.period(set));
        CHECK.by("31 The greatest common divisor (0: none)");
        String[] texts = {"n", "n e", "n s", "ne s w", "e w nw se", KING, "ne se w", "n sw e s", "s n", "sw ne; from 0 5",
            "se nw", "se nw; from 1 0", "n s 9; from 0 9"};
        int[] want = {0, 0, 2, 3, 2, 1, 4, 1, 2, 2, 0, 2, 2};
        for (int i = 0; i < texts.length; i++) {
            due(texts[i], Check.with(texts[i]).period(0), want[i]);
        }
    }

    private static void meets() {
        CHECK.by("32 NONE: no such ones");
        CHECK.sets(NONE, 1, "n", (q, set) -> q.meet(set, set, 0));
        QuarterWalks q = eighth("n");
        for (int set : new int[] {-1, 8, LOW, HIGH}) {
            due("the one alone " + set, q.meet(set, 7, 0), NONE);
            due("the other alone " + set, q.meet(7, set, 0), NONE);
        }
        CHECK.beyond("n", NONE, 0, 60, (o, n) -> o.meet(0, 1, n));
        CHECK.by("32 Over all points of the quarter, another one (or the same)");
        QuarterWalks two = Check.with("n e", "n 2; from 1 0", "n 3 e 5", "ne; from 9 9", "ne 2; from 9 9", "n");
        due("itself, 60", two.meet(0, 0, 60), modulo(binomial(120, 60)));
        due("the farthest point", two.meet(3, 4, 60), power(2, 60));
        due("START apart", two.meet(0, 1, 0), 0);
        due("START the same", two.meet(0, 2, 0), 1);
        due("two points", two.meet(0, 2, 1), 8);
        due("one point", two.meet(5, 2, 60), power(3, 60));
        due("the other way", two.meet(2, 5, 60), power(3, 60));
        QuarterWalks sides = Check.with("w e", "w e");
        due("of the quarter alone", sides.meet(0, 1, 2), 2);
    }
}
