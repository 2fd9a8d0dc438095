/** Promises 33 to 40: each sentence that names a boundary case, by its words. */
public final class EdgesOfKernelsTest {
    private static final Check CHECK = new Check();
    private static final int NONE = -1;
    private static final int NO_SUCH = -2;
    private static final int LOW = Integer.MIN_VALUE;
    private static final int HIGH = Integer.MAX_VALUE;
    private static final int TOP = 1000002;
    private static final int[] NO_NUMBERS = {0, -1, TOP + 1, LOW, HIGH};
    private static final String CROSS = "n e s w";
    private static final String KREWERAS = "ne w s";
    /** Its ORBIT of (11, 13) has 40 pairs, those of (2, 3) and (5, 7) don't end in 40. */
    private static final String FORTY = "e s 2 sw 6 nw 6";
    /** Its ORBIT of (2, 3) would have 42. */
    private static final String FORTY_TWO = "n 3 e 7 sw w 6";

    public static void main(String[] args) {
        kernels();
        turns();
        noTurns();
        orbitsNoSuch();
        orbitsOfNone();
        orbitsOfForty();
        orbitsEnd();
        groups();
        groupsOfUnlikeOrbits();
        sums();
        usesOfAll();
        enough();
        alike();
        CHECK.close();
    }

    private static void due(String call, long got, long want) {
        CHECK.due(call, got, want);
    }

    private static long by(long number, long divisor) {
        return Plain.mod(java.math.BigInteger.valueOf(divisor).modInverse(Plain.P)
            .multiply(java.math.BigInteger.valueOf(number)));
    }

    private static void kernels() {
        CHECK.by("33 NONE: no such ones (1 to 1000002 each)");
        CHECK.sets(NONE, 4, CROSS, (q, set) -> q.kernel(set, 1, 1));
        QuarterWalks q = Check.with(CROSS, "n 9 ne 9 e 9 se 9 s 9 sw 9 w 9 nw 9", "n", "sw 5");
        for (int wrong : NO_NUMBERS) {
            due("x " + wrong, q.kernel(0, wrong, 1), NONE);
            due("y " + wrong, q.kernel(0, 1, wrong), NONE);
        }
        CHECK.by("KERNEL: each times x to its x and y to its y (to the -1: the inverse)");
        due("of 1 and 1: W", q.kernel(1, 1, 1), 72);
        due("of 1000002 and 1000002", q.kernel(0, TOP, TOP), TOP + 1 - 4);
        due("of 1000002 and 1", q.kernel(0, TOP, 1), 0);
        due("of 1 and 1000002", q.kernel(0, 1, TOP), 0);
        due("y alone", q.kernel(2, 17, TOP), TOP);
        due("both inverses", q.kernel(3, 2, 5), by(5, 10));
    }

    private static void turns() {
        CHECK.by("34 NONE: no such ones");
        CHECK.sets(NONE, 1, CROSS, (q, set) -> q.turned(set, 1, 1, 0));
        QuarterWalks q = Check.with(CROSS, "ne 2 w 3 s 4");
        for (int which = 0; which <= 1; which++) {
            for (int wrong : NO_NUMBERS) {
                due("x " + wrong + " turn " + which, q.turned(0, wrong, 1, which), NONE);
                due("y " + wrong + " turn " + which, q.turned(0, 1, wrong, which), NONE);
            }
            due("1000002 turn " + which, q.turned(0, TOP, TOP, which), TOP);
            due("1 turn " + which, q.turned(0, 1, 1, which), 1);
        }
        for (int which : new int[] {-1, 2, LOW, HIGH}) {
            due("which " + which, q.turned(0, 1, 1, which), NONE);
        }
        CHECK.by("TURNS: 0: x becomes C by (A x); 1: y becomes F by (D y)");
        due("turn 0", q.turned(1, 2, 5, 0), by(3, 2 * 5 * 2));
        due("turn 1", q.turned(1, 2, 5, 1), by(4, 2 * 2 * 5));
    }

    private static void noTurns() {
        CHECK.by("TURNS: there is none, if it were 0 or by 0");
        String[] texts = {"e n s", "w n s", "n s", "n e w", "s e w", "e w"};
        boolean[][] are = {{false, true}, {false, true}, {false, true}, {true, false}, {true, false}, {true, false}};
        for (int i = 0; i < texts.length; i++) {
            QuarterWalks q = Check.with(texts[i]);
            due(texts[i] + " turn 0", q.turned(0, 2, 3, 0), are[i][0] ? by(1, 2) : NONE);
            due(texts[i] + " turn 1", q.turned(0, 2, 3, 1), are[i][1] ? by(1, 3) : NONE);
            due(texts[i] + " orbit", q.orbit(0, 2, 3, -1, 0), NONE);
        }
        CHECK.by("TURNS: 0 or by 0, MODULO");
        // A, C by y, then D, F by x, are 2 and what is -2 here, and -1 next to it.
        QuarterWalks q = Check.with("e 2 ne w n s", "w 2 nw e n s", "n 2 ne s e w", "s 2 se n e w");
        for (int set = 0; set < 2; set++) {
            due("turn 0 of -2, set " + set, q.turned(set, 3, TOP - 1, 0), NONE);
            CHECK.due("turn 0 of -1, set " + set, q.turned(set, 3, TOP, 0) != NONE, true);
            due("turn 1 of -2, set " + set, q.turned(set + 2, TOP - 1, 3, 1), NONE);
            CHECK.due("turn 1 of -1, set " + set, q.turned(set + 2, TOP, 3, 1) != NONE, true);
        }
    }

    private static void orbitsNoSuch() {
        CHECK.by("35 -2: no such ones (all else ahead of NONE)");
        CHECK.sets(NO_SUCH, 4, CROSS, (q, set) -> q.orbit(set, 2, 3, -1, 0));
        // "n" has no TURN, the last would have 42 pairs.
        QuarterWalks q = Check.with(CROSS, "n", FORTY_TWO);
        for (int set = 0; set < 3; set++) {
            for (int wrong : NO_NUMBERS) {
                due("x " + wrong + " set " + set, q.orbit(set, wrong, 3, -1, 0), NO_SUCH);
                due("y " + wrong + " set " + set, q.orbit(set, 2, wrong, 0, 1), NO_SUCH);
            }
            for (int what : new int[] {-1, 2, LOW, HIGH}) {
                due("what " + what + " set " + set, q.orbit(set, 2, 3, 0, what), NO_SUCH);
                due("what " + what + " set " + set + " pair 99", q.orbit(set, 2, 3, 99, what), NO_SUCH);
                due("what " + what + " set " + set + " pair -2", q.orbit(set, 2, 3, -2, what), NO_SUCH);
                CHECK.by("35 how many pairs (k NONE), whatever what");
                due("what " + what + " set " + set + " k NONE", q.orbit(set, 2, 3, -1, what), set == 0 ? 4 : NONE);
                CHECK.by("35 -2: no such ones (all else ahead of NONE)");
            }
        }
        CHECK.by("35 -2: a pair there is none of");
        for (int k : new int[] {-2, 4, 5, 39, 40, LOW, HIGH}) {
            due("pair " + k + " x", q.orbit(0, 2, 3, k, 0), NO_SUCH);
            due("pair " + k + " y", q.orbit(0, 2, 3, k, 1), NO_SUCH);
        }
        due("the last pair, x", q.orbit(0, 2, 3, 3, 0), 2);
        due("the last pair, y", q.orbit(0, 2, 3, 3, 1), by(1, 3));
        due("the first pair, x", q.orbit(0, 2, 3, 0, 0), 2);
        due("the first pair, y", q.orbit(0, 2, 3, 0, 1), 3);
    }

    private static void orbitsOfNone() {
        CHECK.by("35 NONE: it doesn't end in 40, a TURN there is none of (a pair there is none of behind NONE)");
        QuarterWalks q = Check.with("n", "e w s", FORTY_TWO);
        for (int set = 0; set < 3; set++) {
            due("how many of " + set, q.orbit(set, 2, 3, -1, 0), NONE);
            for (int k : new int[] {0, 1, 39, 40, 41, 42, -2, LOW, HIGH}) {
                due("pair " + k + " of " + set, q.orbit(set, 2, 3, k, 0), NONE);
                due("pair " + k + " of " + set, q.orbit(set, 2, 3, k, 1), NONE);
            }
        }
        CHECK.by("ORBIT: a TURN there is none of later on");
        // A is 1 and 2 y, so 0 for y 500001: the ORBIT begins two TURNS ahead of that.
        QuarterWalks later = Check.with("e ne 2 w n s");
        int y = 500001;
        due("by 0 there", later.turned(0, 2, y, 0), NONE);
        int x = 7;
        int from = later.turned(0, x, y, 1);
        due("one TURN from there", later.turned(0, x, from, 1), y);
        int ahead = later.turned(0, x, from, 0);
        due("two TURNS from there", later.turned(0, ahead, from, 0), x);
        due("the first two TURNS go, the third doesn't", later.orbit(0, ahead, from, -1, 0), NONE);
    }

    private static void orbitsOfForty() {
        CHECK.by("ORBIT: how many pairs (40 at most)");
        QuarterWalks q = Check.with(FORTY);
        due("40", q.orbit(0, 11, 13, -1, 0), 40);
        java.util.List<int[]> pairs = Plain.of(Check.with(FORTY)).orbit(11, 13);
        for (int k = 0; k < 40; k++) {
            due("x of " + k, q.orbit(0, 11, 13, k, 0), pairs.get(k)[0]);
            due("y of " + k, q.orbit(0, 11, 13, k, 1), pairs.get(k)[1]);
        }
        due("no 41st", q.orbit(0, 11, 13, 40, 0), NO_SUCH);
        QuarterWalks more = Check.with(FORTY_TWO);
        int x = 2;
        int y = 3;
        for (int turns = 1; turns <= 42; turns++) {
            x = turns % 2 == 1 ? more.turned(0, x, y, 0) : x;
            y = turns % 2 == 0 ? more.turned(0, x, y, 1) : y;
            CHECK.due("back behind " + turns, turns % 2 == 0 && x == 2 && y == 3, turns == 42);
        }
        due("42 are too many", more.orbit(0, 2, 3, -1, 0), NONE);
        due("so for the sum", more.sum(0, 2, 3), NONE);
    }

    private static void orbitsEnd() {
        CHECK.by("ORBIT: till it is (x, y) again behind a TURN 1");
        QuarterWalks q = Check.with("e w 4 n s", "e w n s 9", "e w 4 n s 9", CROSS);
        due("x stays by TURN 0", q.orbit(0, 2, 3, -1, 0), 4);
        due("the second is as the first", q.orbit(0, 2, 3, 1, 1), 3);
        due("y stays by TURN 1", q.orbit(1, 2, 3, -1, 0), 4);
        due("both stay", q.orbit(2, 2, 3, -1, 0), 2);
        due("the second of two, x", q.orbit(2, 2, 3, 1, 0), 2);
        due("no third", q.orbit(2, 2, 3, 2, 0), NO_SUCH);
        due("of 1 and 1", q.orbit(3, 1, 1, -1, 0), 2);
        due("of 1000002 and 1000002", q.orbit(3, TOP, TOP, -1, 0), 2);
    }

    private static void groups() {
        CHECK.by("36 NONE: none; -2: no such SET");
        CHECK.sets(NO_SUCH, 6, KREWERAS, (q, set) -> q.group(set));
        for (String none : new String[] {"n", "n s", "e w", "n e", "e w n", "n e sw se", FORTY_TWO}) {
            due(none, Check.with(none).group(0), NONE);
        }
        CHECK.by("GROUP: the greatest of its ORBITS");
        String[] texts = {CROSS, KREWERAS, "e w nw se", "n 3 e 9 s 2 w 5", "n ne e se s sw w nw", "e w ne sw"};
        int[] groups = {4, 6, 8, 4, 4, 8};
        for (int i = 0; i < texts.length; i++) {
            due(texts[i], Check.with(texts[i]).group(0), groups[i]);
            due(texts[i] + " from elsewhere", Check.with(texts[i] + "; from 9 9").group(0), groups[i]);
        }
    }

    /** ORBITS of (2, 3), (5, 7), (11, 13), and the GROUP that is due. */
    private static void orbitsAndGroup(String text, int first, int second, int third, int group) {
        QuarterWalks q = Check.with(text);
        due(text + " of (2, 3)", q.orbit(0, 2, 3, -1, 0), first);
        due(text + " of (5, 7)", q.orbit(0, 5, 7, -1, 0), second);
        due(text + " of (11, 13)", q.orbit(0, 11, 13, -1, 0), third);
        due(text, q.group(0), group);
    }

    private static void groupsOfUnlikeOrbits() {
        CHECK.by("GROUP: the greatest of its ORBITS of (2, 3), (5, 7), (11, 13)");
        orbitsAndGroup("n se s 5 sw 4", 2, 4, 4, 4);
        orbitsAndGroup("e se s 2 sw w 2 nw", 2, 6, 6, 6);
        CHECK.by("GROUP: none, if one of these has none");
        orbitsAndGroup("n 3 ne se 9 s 4 sw w", 4, NONE, NONE, NONE);
        orbitsAndGroup("ne 6 e 8 se s 9 sw 2 w 6", NONE, 40, NONE, NONE);
        orbitsAndGroup("ne 3 e 9 se 2 s sw 5 w 4 nw 7", 4, NONE, 20, NONE);
        orbitsAndGroup(FORTY, NONE, NONE, 40, NONE);
        QuarterWalks q = Check.with(FORTY, "n se s 5 sw 4", "e se s 2 sw w 2 nw");
        CHECK.by("51 the greatest GROUP");
        due("most", q.most(2), 2);
    }

    private static void sums() {
        CHECK.by("37 -2: no such ones");
        CHECK.sets(NO_SUCH, 4, CROSS, (q, set) -> q.sum(set, 2, 3));
        QuarterWalks q = Check.with(CROSS, "n", "e w 4 n s 9", FORTY_TWO, FORTY);
        for (int set = 0; set < 5; set++) {
            for (int wrong : NO_NUMBERS) {
                due("x " + wrong, q.sum(set, wrong, 3), NO_SUCH);
                due("y " + wrong, q.sum(set, 2, wrong), NO_SUCH);
            }
        }
        CHECK.by("37 NONE: there is no ORBIT");
        due("no TURN", q.sum(1, 2, 3), NONE);
        due("42 pairs", q.sum(3, 2, 3), NONE);
        CHECK.by("ORBIT SUM: each other one (from the second on) less");
        due("two the same", q.sum(2, 2, 3), 0);
        due("(2 less 1 by 2) (3 less 1 by 3)", q.sum(0, 2, 3), 4);
        due("of 1 and 1", q.sum(0, 1, 1), 0);
        due("(3 less 1 by 3) (1 by 2 less 2), MODULO", q.sum(0, 500002, 3), TOP + 1 - 4);
        due("of 40 pairs", q.sum(4, 11, 13), Plain.of(Check.with(FORTY)).sum(11, 13));
    }

    /** Every SET of STEPS from nine STARTS, against points reached one STEP after the other. */
    private static void usesOfAll() {
        CHECK.by("38 NONE: no such SET");
        CHECK.sets(NONE, 16, "s", (q, set) -> q.noUse(set));
        CHECK.by("Of no USE: STEPS that stand in no WALK of 24 STEPS or fewer in the quarter");
        int[] starts = {0, 1, 9};
        for (int bits = 1; bits < 256; bits++) {
            int[] w = new int[8];
            for (int k = 0; k < 8; k++) {
                w[k] = bits >> k & 1;
            }
            for (int sx : starts) {
                for (int sy : starts) {
                    String text = new Plain(w, sx, sy).text();
                    due(text, Check.with(text).noUse(0), bits & ~used(bits, sx, sy));
                }
            }
        }
    }

    private static int used(int bits, int sx, int sy) {
        boolean[][] now = new boolean[40][40];
        now[sx][sy] = true;
        int used = 0;
        for (int n = 1; n <= 24; n++) {
            boolean[][] next = new boolean[40][40];
            for (int x = 0; x < 39; x++) {
                for (int y = 0; y < 39; y++) {
                    for (int k = 0; now[x][y] && k < 8; k++) {
                        int px = x + Plain.STEPS[k][0];
                        int py = y + Plain.STEPS[k][1];
                        if ((bits >> k & 1) == 1 && px >= 0 && py >= 0) {
                            used |= 1 << k;
                            next[px][py] = true;
                        }
                    }
                }
            }
            now = next;
        }
        return used;
    }

    private static void enough() {
        CHECK.by("39 NONE: no such SET");
        CHECK.sets(NONE, 3, "n", (q, set) -> q.enough(set));
        CHECK.by("ENOUGH: 1 the half with no y below 0; 2 that with no x below 0; 3 both; 0 none");
        String[] texts = {"n e", "n e s", "n e w", CROSS, "s", "w", "s; from 0 9", "w; from 9 0", "sw", "n 9 e 9 s 9"};
        int[] want = {3, 1, 2, 0, 1, 2, 1, 2, 3, 1};
        for (int i = 0; i < texts.length; i++) {
            due(texts[i], Check.with(texts[i]).enough(0), want[i]);
        }
        CHECK.by("ENOUGH: by SERIES anywhere, MODULO");
        due("45 to the 12 of them", Check.with("n 9 ne 9 e 9 se 9 s 9").enough(0), 1);
        due("so to the left", Check.with("n 9 ne 9 e 9 w 9 nw 9").enough(0), 2);
        CHECK.by("ENOUGH: WALKS of 0 to 12 STEPS");
        // By the 12th, and only by the 13th, x goes below 0 while y doesn't; then the same of y.
        due("x by the 12th", Check.with("n sw; from 5 0").enough(0), 0);
        due("x by the 13th", Check.with("n sw; from 6 1").enough(0), 1);
        due("y by the 12th", Check.with("e sw; from 0 5").enough(0), 0);
        due("y by the 13th", Check.with("e sw; from 1 6").enough(0), 2);
    }

    private static void alike() {
        CHECK.by("40 NONE: no such SET");
        CHECK.sets(NONE, 7, "n", (q, set) -> q.alike(set));
        CHECK.by("ALIKE: the same SERIES anywhere (0 to 20)");
        QuarterWalks q = Check.with("n se", "e sw; from 0 9");
        due("unlike by the 20th alone", q.alike(1), 1);
        due("the 19th", q.series(0, 0, 19), q.series(1, 0, 19));
        CHECK.due("the 20th", q.series(0, 0, 20) != q.series(1, 0, 20), true);
        QuarterWalks later = Check.with("e sw nw; from 1 9", "n s sw; from 9 1");
        due("unlike by the 21st alone", later.alike(1), 0);
        due("the 20th", later.series(0, 0, 20), later.series(1, 0, 20));
        CHECK.due("the 21st", later.series(0, 0, 21) != later.series(1, 0, 21), true);
        CHECK.by("40 The lowest SET that is ALIKE (itself, too)");
        QuarterWalks many = Check.with("n", "n 2", "e", "n 2", "s", "w", "e 2; from 3 3", "n");
        int[] want = {0, 1, 0, 1, 4, 4, 1, 0};
        for (int set = 0; set < 8; set++) {
            due("set " + set, many.alike(set), want[set]);
        }
    }
}
