/** Promises 41 to 46: each sentence that names a boundary case, by its words. */
public final class EdgesOfGuessesTest {
    private static final Check CHECK = new Check();
    private static final int NONE = -1;
    private static final int NO_SUCH = -2;
    private static final int HIDDEN = -1000000;
    private static final int LOW = Integer.MIN_VALUE;
    private static final int HIGH = Integer.MAX_VALUE;
    private static final int LESS_ONE = 1000002;
    private static final String CROSS = "n e s w";
    /**
     * ORDER and DEGREE; the kind and the SET of a SERIES for which the first line that isn't 0 is
     * the one behind the last that is looked at; then of one for which it is the last.
     */
    private static final String[][] RECURRENCES = {
        {"10", "0 s; from 0 6", "0 s; from 0 5"},
        {"11", "0 s; from 0 8", "3 s w; from 1 6"},
        {"12", "0 s w; from 1 9", "0 s w; from 1 8"},
        {"13", "2 s w; from 3 9", "4 s w; from 3 8"},
        {"14", "2 s w; from 5 9", "4 s w; from 4 9"},
        {"20", "0 s; from 0 7", "0 s; from 0 6"},
        {"21", "0 s w; from 1 9", "0 s w; from 1 8"},
        {"22", "2 s w; from 4 9", "4 s w; from 4 8"},
        {"23", "0 s w; from 7 9", "0 s w; from 6 9"},
        {"24", "2 n s; from 0 9", "1 n s; from 0 4"},
        {"30", "0 s; from 0 8", "0 s; from 0 7"},
        {"31", "2 s w; from 3 9", "4 s w; from 2 9"},
        {"32", "0 s w; from 7 9", "0 s w; from 6 9"},
        {"33", "1 n s; from 0 8", "4 n s; from 2 9"},
        {"34", "1 n s; from 0 9", "4 n s; from 8 9"},
        {"40", "0 s; from 0 9", "0 s; from 0 8"},
        {"41", "2 s w; from 5 9", "3 s w; from 4 9"},
        {"42", "4 n s; from 2 9", "1 n s; from 0 7"},
        {"43", "1 n s; from 0 9", "4 n s; from 4 9"},
        {"44", "4 n se; from 0 4", "4 n se; from 0 8"}
    };
    /** Likewise; of 3 and 0 there is none known for which it is the last. */
    private static final String[][] EQUATIONS = {
        {"10", "2 s; from 0 6", "2 s; from 0 5"},
        {"11", "0 s; from 0 7", "0 s; from 0 6"},
        {"12", "0 s; from 0 8", "0 s; from 0 7"},
        {"13", "0 s; from 0 9", "0 s; from 0 8"},
        {"14", "2 n s; from 0 4", "0 s; from 0 9"},
        {"15", "3 n sw; from 6 0", "0 n s; from 0 4"},
        {"16", "4 n s; from 2 6", "2 n s; from 0 5"},
        {"20", "2 s; from 0 7", "2 s; from 0 3"},
        {"21", "2 s; from 0 5", "2 s; from 0 4"},
        {"22", "2 s; from 0 6", "0 s; from 0 5"},
        {"23", "0 s; from 0 7", "0 s; from 0 6"},
        {"24", "0 s; from 0 8", "0 s; from 0 7"},
        {"25", "0 s; from 0 9", "0 s; from 0 8"},
        {"26", "3 n sw; from 5 0", "0 s; from 0 9"},
        {"30", "2 s; from 0 4"},
        {"31", "2 s; from 0 4", "0 s; from 0 8"},
        {"32", "2 s; from 0 5", "0 s; from 0 6"},
        {"33", "2 s; from 0 6", "4 s w; from 7 7"},
        {"34", "0 s; from 0 7", "3 s w; from 1 9"},
        {"35", "0 s; from 0 8", "1 n s; from 0 9"},
        {"36", "0 s; from 0 9", "2 n s sw w; from 1 6"}
    };

    public static void main(String[] args) {
        recurrencesNoSuch();
        linesOfEachShape();
        shapesInTurn();
        recurrenceLines();
        recurrenceTold();
        recurrenceFails();
        equationsNoSuch();
        equationLines();
        equationTold();
        equationFails();
        leastNoSuch();
        leastOfAll();
        leastOfSeveral();
        writtenNoSuch();
        writtenEdges();
        CHECK.close();
    }

    private static void due(String call, long got, long want) {
        CHECK.due(call, got, want);
    }

    private static void recurrencesNoSuch() {
        CHECK.by("41 HIDDEN: no such ones");
        CHECK.sets(HIDDEN, LESS_ONE, "n", (q, set) -> q.recurrence(set, 0, 1, 0, 0, 0));
        CHECK.beyond("kind", HIDDEN, 0, 4, (q, kind) -> q.recurrence(0, kind, 1, 0, 0, 0));
        CHECK.beyond("r", HIDDEN, 1, 4, (q, r) -> q.recurrence(0, 0, r, 0, 0, 0));
        CHECK.beyond("d", HIDDEN, 0, 4, (q, d) -> q.recurrence(0, 0, 1, d, 0, 0));
        for (int r = 1; r <= 4; r++) {
            for (int d = 0; d <= 4; d++) {
                int order = r;
                int degree = d;
                CHECK.beyond("i of " + r, HIDDEN, 0, r, (q, i) -> q.recurrence(0, 0, order, degree, i, 0));
                CHECK.beyond("j of " + d, HIDDEN, 0, d, (q, j) -> q.recurrence(0, 0, order, degree, 0, j));
            }
        }
        CHECK.by("42 HIDDEN: no such ones");
        CHECK.sets(HIDDEN, NONE, "n", (q, set) -> q.fails(set, 0, 1, 0));
        CHECK.beyond("kind", HIDDEN, 0, 4, (q, kind) -> q.fails(0, kind, 1, 0));
        CHECK.beyond("r", HIDDEN, 1, 4, (q, r) -> q.fails(0, 0, r, 0));
        CHECK.beyond("d", HIDDEN, 0, 4, (q, d) -> q.fails(0, 0, 1, d));
        CHECK.by("41 NONE: there is none, but no such ones first");
        QuarterWalks none = Check.with(CROSS);
        due("there is none", none.recurrence(0, 0, 1, 0, 0, 0), NONE);
        due("i 2 of none", none.recurrence(0, 0, 1, 0, 2, 0), HIDDEN);
        due("j 1 of none", none.recurrence(0, 0, 1, 0, 0, 1), HIDDEN);
    }

    private static void linesOfEachShape() {
        CHECK.by("RECURRENCE: for n 0 to U and 3");
        for (String[] row : RECURRENCES) {
            int r = row[0].charAt(0) - '0';
            int d = row[0].charAt(1) - '0';
            int behind = (r + 1) * (d + 1) + 4;
            due(row[0] + " behind, " + row[1], of(row[1]).fails(0, row[1].charAt(0) - '0', r, d), behind);
            due(row[0] + " the last, " + row[2], of(row[2]).fails(0, row[2].charAt(0) - '0', r, d), NO_SUCH);
            due(row[0] + " none, " + row[2], of(row[2]).recurrence(0, row[2].charAt(0) - '0', r, d, r, d), NONE);
        }
        CHECK.by("EQUATION: the first U and 4 numbers");
        for (String[] row : EQUATIONS) {
            int r = row[0].charAt(0) - '0';
            int d = row[0].charAt(1) - '0';
            int behind = (r + 1) * (d + 1) + 4;
            due(row[0] + " behind, " + row[1], of(row[1]).breaks(0, row[1].charAt(0) - '0', r, d), behind);
            for (int i = 2; i < row.length; i++) {
                due(row[0] + " the last, " + row[i], of(row[i]).breaks(0, row[i].charAt(0) - '0', r, d), NO_SUCH);
                due(row[0] + " none, " + row[i], of(row[i]).equation(0, row[i].charAt(0) - '0', r, d, r, d), NONE);
            }
        }
    }

    /** One object asked of all ORDERS and DEGREES: nothing of the one asked of ahead is left. */
    private static void shapesInTurn() {
        CHECK.by("42, 44 Where it FAILS, whatever was asked ahead");
        QuarterWalks q = Check.with("w; from 7 0");
        Plain p = Plain.of(q);
        for (int r = 4; r >= 1; r--) {
            for (int d = 4; d >= 0; d--) {
                due("fails " + r + d, q.fails(0, 0, r, d), p.fails(0, 0, r, d));
                due("breaks of 1 and 1", q.breaks(0, 0, 1, 1), 8);
                due("fails of 1 and 0", q.fails(0, 0, 1, 0), 7);
                due("breaks of 3 and 6", q.breaks(0, 0, 3, 6), p.fails(0, 1, 3, 6));
                due("rank", q.rank(0, 7), 1);
            }
        }
    }

    /** The SET behind the kind. */
    private static QuarterWalks of(String kindAndSet) {
        return Check.with(kindAndSet.substring(2));
    }

    /** By w from (k, 0): 1 for n 0 to k, then 0. So a(n and 1) less a(n) is 0 till n is k. */
    private static void recurrenceLines() {
        for (int r = 1; r <= 4; r++) {
            CHECK.by("RECURRENCE: for n 0 to U and 3, ORDER " + r);
            QuarterWalks early = Check.with("w; from " + (r + 4) + " 0");
            due("a line that isn't 0 is the last", early.fails(0, 0, r, 0), NO_SUCH);
            due("so there is none", early.recurrence(0, 0, r, 0, 0, 0), NONE);
            due("nor another c of it", early.recurrence(0, 0, r, 0, r, 0), NONE);
            QuarterWalks late = Check.with("w; from " + (r + 5) + " 0");
            due("it is the one behind the last", late.fails(0, 0, r, 0), r + 5);
            due("c(0, 0)", late.recurrence(0, 0, r, 0, 0, 0), LESS_ONE);
            due("c(1, 0)", late.recurrence(0, 0, r, 0, 1, 0), 1);
            for (int i = 2; i <= r; i++) {
                due("c(i, 0)", late.recurrence(0, 0, r, 0, i, 0), 0);
            }
        }
        CHECK.by("RECURRENCE: of ORDER 4 and DEGREE 4, the greatest there is");
        QuarterWalks q = Check.with("n s; from 0 9");
        Plain p = new Plain(new int[] {1, 0, 0, 0, 1, 0, 0, 0}, 0, 9);
        java.math.BigInteger[] c = p.guess(1, 0, 4, 4);
        for (int i = 0; i <= 4; i++) {
            for (int j = 0; j <= 4; j++) {
                due("c(" + i + ", " + j + ")", q.recurrence(0, 1, 4, 4, i, j), c[5 * i + j].intValueExact());
            }
        }
        due("it doesn't fail", q.fails(0, 1, 4, 4), NONE);
    }

    private static void recurrenceTold() {
        CHECK.by("RECURRENCE: that the last c of which that isn't 0 stands the earliest; that c is 1");
        QuarterWalks q = Check.with("n 3", "sw", "w; from 7 0", "n e; from 5 0");
        for (int r = 1; r <= 4; r++) {
            for (int d = 0; d <= 4; d++) {
                due("a(n and 1) is 3 a(n)", q.recurrence(0, 0, r, d, 0, 0), 1000000);
                due("that last one", q.recurrence(0, 0, r, d, 1, 0), 1);
                due("none behind it", q.recurrence(0, 0, r, d, r, d), r == 1 && d == 0 ? 1 : 0);
                due("noughts alone: the first c", q.recurrence(3, 3, r, d, 0, 0), 1);
                due("noughts alone: no other", q.recurrence(3, 3, r, d, r, d), 0);
            }
        }
        CHECK.by("RECURRENCE: n to the j (0 to the 0: 1)");
        // 1, 0, 0, ..: n a(n) is 0, a(n) isn't; by ORDER 1 and DEGREE 0 a(n and 1) is.
        due("c(0, 0)", q.recurrence(1, 0, 1, 1, 0, 0), 0);
        due("c(0, 1)", q.recurrence(1, 0, 1, 1, 0, 1), 1);
        due("degree 0, c(0, 0)", q.recurrence(1, 0, 1, 0, 0, 0), 0);
        due("degree 0, c(1, 0)", q.recurrence(1, 0, 1, 0, 1, 0), 1);
        // (n less 7) (a(n and 1) less a(n)) is 0 for all n.
        int[] want = {7, LESS_ONE, 1000003 - 7, 1};
        for (int at = 0; at < 4; at++) {
            due("c by 7, " + at, q.recurrence(2, 0, 1, 1, at / 2, at % 2), want[at]);
        }
        due("it doesn't fail", q.fails(2, 0, 1, 1), NONE);
    }

    private static void recurrenceFails() {
        CHECK.by("42 NONE: it doesn't; -2: there is none");
        QuarterWalks q = Check.with("n 3", CROSS, "n e; from 5 0");
        due("it doesn't", q.fails(0, 0, 1, 0), NONE);
        due("of noughts", q.fails(2, 3, 4, 4), NONE);
        due("there is none", q.fails(1, 0, 1, 0), NO_SUCH);
        CHECK.by("FAILS: the first n for which they aren't 0");
        for (int k = 6; k <= 9; k++) {
            due("by w from " + k, Check.with("w; from " + k + " 0").fails(0, 0, 1, 0), k);
        }
        due("late", Check.with("n sw; from 9 0").fails(0, 3, 1, 0), 18);
        due("later", Check.with("ne e sw w; from 0 9").fails(0, 1, 2, 2), 38);
    }

    private static void equationsNoSuch() {
        CHECK.by("43 likewise: HIDDEN: no such ones");
        CHECK.sets(HIDDEN, NONE, "n", (q, set) -> q.equation(set, 0, 1, 0, 0, 0));
        CHECK.beyond("kind", HIDDEN, 0, 4, (q, kind) -> q.equation(0, kind, 1, 0, 0, 0));
        CHECK.beyond("r", HIDDEN, 1, 3, (q, r) -> q.equation(0, 0, r, 0, 0, 0));
        CHECK.beyond("d", HIDDEN, 0, 6, (q, d) -> q.equation(0, 0, 1, d, 0, 0));
        for (int r = 1; r <= 3; r++) {
            for (int d = 0; d <= 6; d++) {
                int order = r;
                int degree = d;
                CHECK.beyond("i of " + r, HIDDEN, 0, r, (q, i) -> q.equation(0, 0, order, degree, i, 0));
                CHECK.beyond("j of " + d, HIDDEN, 0, d, (q, j) -> q.equation(0, 0, order, degree, 0, j));
            }
        }
        CHECK.by("44 likewise: HIDDEN: no such ones");
        CHECK.sets(HIDDEN, NO_SUCH, "n", (q, set) -> q.breaks(set, 0, 1, 0));
        CHECK.beyond("kind", HIDDEN, 0, 4, (q, kind) -> q.breaks(0, kind, 1, 0));
        CHECK.beyond("r", HIDDEN, 1, 3, (q, r) -> q.breaks(0, 0, r, 0));
        CHECK.beyond("d", HIDDEN, 0, 6, (q, d) -> q.breaks(0, 0, 1, d));
        CHECK.by("43 likewise: NONE: there is none, but no such ones first");
        QuarterWalks none = Check.with("n");
        due("there is none", none.equation(0, 0, 1, 0, 0, 0), NONE);
        due("i 2 of none", none.equation(0, 0, 1, 0, 2, 0), HIDDEN);
        due("j 1 of none", none.equation(0, 0, 1, 0, 0, 1), HIDDEN);
    }

    /** By s from (0, k), where y is 0: F is t to the k. By w from (k, 0), anywhere: 1 and t .. to the k. */
    private static void equationLines() {
        for (int r = 1; r <= 3; r++) {
            CHECK.by("EQUATION: the first U and 4 numbers, ORDER " + r);
            QuarterWalks late = Check.with("s; from 0 " + (r + 5));
            due("it is the one behind the last", late.breaks(0, 2, r, 0), r + 5);
            due("c(1, 0)", late.equation(0, 2, r, 0, 1, 0), 1);
            QuarterWalks early = Check.with("s; from 0 " + (r + 4));
            due("a number that isn't 0 is the last", early.breaks(0, 2, r, 0), r == 1 ? NO_SUCH : 2 * (r + 4));
            due("c(1, 0)", early.equation(0, 2, r, 0, 1, 0), r == 1 ? NONE : 0);
            due("F times F is then", r == 1 ? 1 : early.equation(0, 2, r, 0, 2, 0), 1);
        }
        CHECK.by("EQUATION: the first U and 4 numbers, DEGREE 1");
        due("t to the 7 is one of 8", Check.with("w; from 6 0").breaks(0, 0, 1, 1), NO_SUCH);
        due("so there is none", Check.with("w; from 6 0").equation(0, 0, 1, 1, 1, 1), NONE);
        due("t to the 8 is not", Check.with("w; from 7 0").breaks(0, 0, 1, 1), 8);
        CHECK.by("EQUATION: of ORDER 3 and DEGREE 6, the greatest there is");
        QuarterWalks q = Check.with("n se");
        Plain p = new Plain(new int[] {1, 0, 0, 1, 0, 0, 0, 0}, 0, 0);
        java.math.BigInteger[] c = p.guess(4, 1, 3, 6);
        for (int i = 0; i <= 3; i++) {
            for (int j = 0; j <= 6; j++) {
                due("c(" + i + ", " + j + ")", q.equation(0, 4, 3, 6, i, j), c[7 * i + j].intValueExact());
            }
        }
        due("it doesn't fail", q.breaks(0, 4, 3, 6), NONE);
    }

    private static void equationTold() {
        CHECK.by("EQUATION: likewise c(i, j): that the last c that isn't 0 stands the earliest; that c is 1");
        QuarterWalks q = Check.with("n", "n e; from 5 0");
        for (int r = 1; r <= 3; r++) {
            for (int d = 1; d <= 6; d++) {
                int[] want = {1, 0, LESS_ONE, 1};
                for (int at = 0; at < 4; at++) {
                    due("1 less F and t F, " + at, q.equation(0, 0, r, d, at / 2, at % 2), want[at]);
                }
                due("none behind", q.equation(0, 0, r, d, r, d), r == 1 && d == 1 ? 1 : 0);
                due("noughts alone: F", q.equation(1, 3, r, d, 1, 0), 1);
                due("noughts alone: no other", q.equation(1, 3, r, d, r, d), 0);
            }
            due("noughts alone, degree 0", q.equation(1, 3, r, 0, 1, 0), 1);
        }
        CHECK.by("EQUATION: t to the j times F to the i");
        QuarterWalks dyck = Check.with("n s");
        int[] want = {1, 0, 0, LESS_ONE, 0, 0, 0, 0, 1};
        for (int at = 0; at < 9; at++) {
            due("1 less F and t t F F, " + at, dyck.equation(0, 1, 2, 2, at / 3, at % 3), want[at]);
        }
    }

    private static void equationFails() {
        CHECK.by("44 likewise: NONE: it doesn't; -2: there is none");
        QuarterWalks q = Check.with("n 3", "n e; from 5 0", "n ne e se s sw w nw");
        due("it doesn't", q.breaks(0, 0, 1, 1), NONE);
        due("of noughts", q.breaks(1, 3, 3, 6), NONE);
        due("there is none", q.breaks(0, 0, 1, 0), NO_SUCH);
        due("there is none of the greatest", q.breaks(2, 0, 3, 6), NO_SUCH);
        CHECK.by("FAILS: the first power of t the number of which isn't 0");
        for (int k = 7; k <= 9; k++) {
            due("by w from " + k, Check.with("w; from " + k + " 0").breaks(0, 0, 1, 1), k + 1);
        }
        due("F times F: late", Check.with("n sw; from 9 0").breaks(0, 3, 2, 0), 18);
        due("later", Check.with("n sw; from 8 0").breaks(0, 3, 3, 3), 32);
    }

    private static void leastNoSuch() {
        CHECK.by("45 HIDDEN: no such ones");
        CHECK.sets(HIDDEN, 10, "n", (q, set) -> q.least(set, 0, 0));
        CHECK.beyond("kind", HIDDEN, 0, 4, (q, kind) -> q.least(0, kind, 0));
        CHECK.beyond("which", HIDDEN, 0, 1, (q, which) -> q.least(0, 0, which));
        CHECK.by("45 NONE: there is none");
        due("RECURRENCE", Check.with("s nw; from 8 8").least(0, 0, 0), NONE);
        due("EQUATION", Check.with("s; from 0 7").least(0, 0, 1), NONE);
    }

    private static void leasts(String text, int kind, int which, int want) {
        due(text + " kind " + kind + " which " + which, Check.with(text).least(0, kind, which), want);
    }

    private static void leastOfAll() {
        CHECK.by("45 LEAST: 10 times r and d, the least and the greatest there are");
        leasts("n 3", 0, 0, 10);
        leasts("n e; from 5 0", 3, 1, 10);
        leasts("s w; from 4 9", 3, 0, 14);
        leasts("se nw; from 0 3", 2, 0, 40);
        leasts("n s; from 0 9", 1, 0, 44);
        leasts("s w; from 1 5", 0, 1, 16);
        leasts("n s; from 0 2", 1, 1, 26);
        leasts("n ne se s", 4, 1, 35);
        leasts("n se", 4, 1, 36);
        CHECK.by("LEAST: there is that doesn't FAIL");
        QuarterWalks q = Check.with("w; from 7 0");
        due("one that FAILS", q.fails(0, 0, 1, 0), 7);
        due("isn't it", q.least(0, 0, 0), 11);
        due("an EQUATION that FAILS", q.breaks(0, 0, 1, 1), 8);
        due("isn't it either", q.least(0, 0, 1), NONE);
    }

    private static void leastOfSeveral() {
        CHECK.by("LEAST: with the fewest c's (of several the least r)");
        String[] texts = {"s w; from 1 1", "s; from 0 9", "s w; from 1 4", "s w; from 2 6"};
        int[][] both = {{1, 1, 3, 0}, {1, 2, 2, 1}, {1, 3, 3, 1}, {1, 4, 4, 1}};
        for (int i = 0; i < texts.length; i++) {
            QuarterWalks q = Check.with(texts[i]);
            due(texts[i] + ", the one", q.fails(0, 0, both[i][0], both[i][1]), NONE);
            due(texts[i] + ", the other of as many", q.fails(0, 0, both[i][2], both[i][3]), NONE);
            due(texts[i], q.least(0, 0, 0), 10 * both[i][0] + both[i][1]);
        }
        CHECK.by("LEAST: with the fewest c's, ahead of the least r");
        QuarterWalks q = Check.with("e s; from 0 1", "s w; from 1 2");
        due("3 c's", q.fails(0, 0, 2, 0), NONE);
        CHECK.due("ORDER 1 with more", q.fails(0, 0, 1, 1) == NONE || q.fails(0, 0, 1, 2) == NONE, true);
        due("ORDER 2 of 3 c's", q.least(0, 0, 0), 20);
        due("ORDER 4 of 5 c's", q.least(1, 0, 0), 40);
    }

    private static void writtenNoSuch() {
        CHECK.by("46 NONE: no such ones");
        CHECK.sets(NONE, 'n', "n", (q, set) -> q.written(set, 0));
        CHECK.sets(NONE, 1, "n", (q, set) -> q.written(set, -1));
        String[] texts = {"n", "n 2", "nw", "n 9 ne 9 e 9 se 9 s 9 sw 9 w 9 nw 9; from 9 9"};
        for (String text : texts) {
            QuarterWalks q = Check.with(text);
            for (int k : new int[] {-2, text.length(), text.length() + 1, LOW, HIGH}) {
                due(text + " byte " + k, q.written(0, k), NONE);
            }
            due(text + " first", q.written(0, 0), text.charAt(0));
            due(text + " last", q.written(0, text.length() - 1), text.charAt(text.length() - 1));
            CHECK.by("46 (k NONE: how many)");
            due(text, q.written(0, -1), text.length());
            CHECK.by("46 NONE: no such ones");
        }
    }

    private static void writtenEdges() {
        CHECK.by("46 each with its WEIGHT behind a blank if it isn't 1; \"; from X Y\" if START isn't 0 0");
        String[][] texts = {{"n1", "n"}, {"n2", "n 2"}, {"n9;from0 0", "n 9"}, {"n;from 0 1", "n; from 0 1"},
            {"n;from 1 0", "n; from 1 0"}, {"n;from 9 9", "n; from 9 9"}, {"nw ne 3", "ne 3 nw"}, {"w2sw", "sw w 2"},
            {"nw w sw s se e ne n", "n ne e se s sw w nw"}};
        for (String[] text : texts) {
            QuarterWalks q = Check.with(text[0]);
            CHECK.due(text[0], Check.written(q, 0).equals(text[1]), true);
            due("told again", Check.tell(q, Check.written(q, 0)), 1);
            due("it is the same", q.most(3), 1);
        }
    }
}
