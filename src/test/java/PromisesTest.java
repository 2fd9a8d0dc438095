/** Each promise by examples reckoned by hand or known, its edges, and wrong inputs. */
public final class PromisesTest {
    private static final Check CHECK = new Check();
    private static final int NONE = -1;
    private static final int HIDDEN = -1000000;
    private static final int LOW = Integer.MIN_VALUE;
    private static final int HIGH = Integer.MAX_VALUE;
    private static final String CROSS = "n e s w";
    private static final String KREWERAS = "ne w s";
    private static final String KING = "n ne e se s sw w nw";

    public static void main(String[] args) {
        tapeAndTexts();
        newSets();
        changes();
        rules();
        atAndSeries();
        exactAndBridge();
        reflectedAndRank();
        ratioHankelConvolved();
        outArchesValue();
        walksInOrder();
        drawnAndPeak();
        pointsFewestPeriodMeet();
        kernelAndTurns();
        orbits();
        usesEnoughAlike();
        recurrences();
        equations();
        leastOnes();
        writtenOnes();
        undoImageBack();
        statusMostCount();
        noSuchSets();
        CHECK.close();
    }

    private static void due(String call, long got, long want) {
        CHECK.due(call, got, want);
    }

    private static void tapeAndTexts() {
        QuarterWalks q = new QuarterWalks();
        due("1 new: sets", q.count(2), 0);
        due("1 new: tape", q.count(0), 0);
        due("1 new: acts", q.count(1), 0);
        due("2 zeros are left out", q.feed(0x6E000065, 0, 0x00007300, 0, 0x77), 4);
        due("3 end keeps the first", q.end(3) ? 1 : 0, 1);
        due("3 bytes", q.count(0), 3);
        due("3 too many", q.end(4) ? 1 : 0, 0);
        due("3 below 0", q.end(-1) ? 1 : 0, 0);
        due("3 wild", (q.end(LOW) || q.end(HIGH)) ? 1 : 0, 0);
        due("3 bytes still", q.count(0), 3);
        due("4 nes is no word", q.fault(), 0);
        q.end(0);
        due("2 highest byte of a number below 0", q.feed(0xFF6E0000, 0, 0, 0, 0), 2);
        due("4 byte 255", q.fault(), 0);
        q.end(0);
        for (int i = 1; i <= 10; i++) {
            due("2 twenty more", q.feed(0x20202020, 0x20202020, 0x20202020, 0x20202020, 0x20202020), 20 * i);
        }
        due("4 blanks alone", q.fault(), 200);
        due("2 more than 200", q.feed(0, 0, 0, 0, 1), NONE);
        due("2 nothing more", q.feed(0, 0, 0, 0, 0), 200);
        q.end(199);
        due("2 201 would be more", q.feed(0x6E650000, 0, 0, 0, 0), NONE);
        due("2 so by the second", q.feed(0, 0x6E650000, 0, 0, 0), NONE);
        due("2 by the third", q.feed(0, 0, 0x6E00, 0, 0x65), NONE);
        due("2 by the fourth", q.feed(0, 0, 0, 0x6E006500, 0), NONE);
        due("2 by the fifth", q.feed(0, 0, 0, 0, 0x6E000065), NONE);
        due("2 none of them came", q.count(0), 199);
        due("2 200 is not more", q.feed(0, 0, 0x00006E00, 0, 0), 200);
        due("4 a word at the very end", q.fault(), NONE);
        due("5 tell", q.tell(), 0);
        due("5 the tape is empty then", q.count(0), 0);
        due("5 nothing told", q.tell(), NONE);
        due("5 status", q.status(0), 1);
        Check.feed(q, "n x");
        due("5 a fault", q.tell(), NONE);
        due("5 the tape stays", q.count(0), 3);
        due("5 its set", q.rule(0, 14), 1);
        String[] texts = {"", " ", "n", "n9", "n 9e", "n;from 0 0", " n 2 ; from 3 4 ", "nw3ne;from9 0", "N", "n0", "n 10",
            "n 1 1", "1", ";", "n;", "n;from", "n;from 1", "n;from 1 ", "n;from 12", "n;from 1 2 3", "n;from 1 2;",
            "n from 1 2", "n;n", "n;frm 1 2", "n;from a", "n n", "n e n", "nn", "n;;", "n-e", "n 1;from 00 1", "n\te",
            "from", "n; from 1 2 e", "n;from1 2", "n,e", "n 01", "s3sw", "s 3 swn"};
        int[] faults = {0, 1, -1, -1, -1, -1, -1, -1, 0, 1, 2, 4, 0, 0, 2, 6, 8, 9, 7, 11, 10, 2, 2, 2, 7, 2, 4, 0, 2, 1,
            9, 1, 0, 12, -1, 1, 2, -1, 4};
        for (int i = 0; i < texts.length; i++) {
            due("4 fault of '" + texts[i] + "'", Check.fault(q, texts[i]), faults[i]);
        }
    }

    private static void newSets() {
        QuarterWalks q = Check.with("n 2 se 3 w; from 1 7");
        due("7 mirror", q.mirror(0), 1);
        CHECK.due("7 mirrored", Check.written(q, 1).equals("e 2 s nw 3; from 7 1"), true);
        due("8 turn", q.turn(0), 2);
        CHECK.due("8 turned round", Check.written(q, 2).equals("e s 2 nw 3; from 1 7"), true);
        due("9 join", q.join(1, 0), 3);
        CHECK.due("9 joined", Check.written(q, 3).equals("n 2 e 2 se 3 s w nw 3; from 7 1"), true);
        due("9 with itself", q.join(0, 0), 4);
        CHECK.due("9 twice", Check.written(q, 4).equals("n 4 se 6 w 2; from 1 7"), true);
        due("9 above 9", q.join(4, 4), NONE);
        due("9 status", q.status(1), 1);
        due("9 no other", q.join(0, 5), NONE);
        due("9 no one", q.join(-1, 0), NONE);
        due("9 status", q.status(0), 2);
        due("6 drop", q.drop(1), 4);
        CHECK.due("6 those behind", Check.written(q, 1).equals("e s 2 nw 3; from 1 7"), true);
        due("6 no such", q.drop(4), NONE);
        due("6 no such", q.drop(-1), NONE);
        due("6 status", q.status(0), 4);
        for (int i = 4; i < 8; i++) {
            due("8 turn", q.turn(0), i);
        }
        due("7 eight", q.mirror(0), NONE);
        due("8 eight", q.turn(0), NONE);
        due("9 eight", q.join(0, 1), NONE);
        due("5 eight", Check.tell(q, "n"), NONE);
        due("status 2", q.status(2), 4);
        due("5 a fault first", Check.tell(q, "x"), NONE);
        due("7 no such first", q.mirror(8), NONE);
        due("8 no such first", q.turn(-1), NONE);
        due("9 no such first", q.join(8, 0), NONE);
        due("9 a weight first", q.join(3, 3), NONE);
        due("status 0", q.status(0), 8);
        due("status 1", q.status(1), 2);
        due("status 2 still", q.status(2), 4);
        due("6 drop the last", q.drop(7), 7);
        due("5 again", Check.tell(q, "n"), 7);
    }

    private static void changes() {
        QuarterWalks q = Check.with("n 2 e 3");
        due("10 scale", q.scale(0, 3), 15);
        CHECK.due("10 scaled", Check.written(q, 0).equals("n 6 e 9"), true);
        due("10 above 9", q.scale(0, 2), NONE);
        due("10 by 1", q.scale(0, 1), NONE);
        due("10 by 10", q.scale(0, 10), NONE);
        due("10 by far", q.scale(0, 1 << 30), NONE);
        due("10 status", q.status(1), 4);
        due("10 no such set first", q.scale(1, 0), NONE);
        due("10 status", q.status(0), 1);
        due("11 weigh", q.weigh(0, 0, 9), 6);
        due("11 a new step", q.weigh(0, 5, 1), 0);
        due("11 it goes", q.weigh(0, 2, 0), 9);
        CHECK.due("11 so it is", Check.written(q, 0).equals("n 9 sw"), true);
        due("11 so already", q.weigh(0, 0, 9), NONE);
        due("11 not there already", q.weigh(0, 3, 0), NONE);
        due("11 status", q.status(3), 2);
        due("11 step 8", q.weigh(0, 8, 1), NONE);
        due("11 step -1", q.weigh(0, -1, 1), NONE);
        due("11 weight 10", q.weigh(0, 0, 10), NONE);
        due("11 weight -1", q.weigh(0, 0, -1), NONE);
        q.weigh(0, 5, 0);
        due("11 none left", q.weigh(0, 0, 0), NONE);
        due("11 status", q.status(1), 9);
        due("11 no such set", q.weigh(1, 8, 10), NONE);
        due("11 status", q.status(0), 2);
        due("12 start", q.start(0, 3, 4), 0);
        due("12 as it was", q.start(0, 9, 0), 34);
        due("12 so already", q.start(0, 9, 0), NONE);
        due("12 status", q.status(3), 3);
        due("12 x 10", q.start(0, 10, 0), NONE);
        due("12 y -1", q.start(0, 0, -1), NONE);
        due("12 status", q.status(1), 11);
        due("12 no such set", q.start(-1, 10, 0), NONE);
        due("12 status", q.status(0), 3);
        due("12 x then", q.rule(0, 10), 9);
        due("what is reckoned follows", q.series(0, 1, 0), 1);
        due("at the new start", q.at(0, 0, 1, 9, 1), 9);
    }

    private static void rules() {
        QuarterWalks q = Check.with("n 2 se 3 w 4; from 1 7");
        int[] want = {2, 0, 0, 3, 0, 0, 4, 0, 3, 9, 1, 7, -1, -1, 0x49};
        for (int what = 0; what < want.length; what++) {
            due("13 rule " + what, q.rule(0, what), want[what]);
        }
        due("13 what 15", Check.ruleThrows(q, 0, 15), 1);
        due("13 what -1", Check.ruleThrows(q, 0, -1), 1);
        due("13 set 1", Check.ruleThrows(q, 1, 0), 1);
        due("13 set -1", Check.ruleThrows(q, -1, 0), 1);
        due("13 wild", Check.ruleThrows(q, HIGH, LOW), 1);
    }

    private static void atAndSeries() {
        QuarterWalks q = Check.with(CROSS, KREWERAS, "n 3 e 2; from 2 5", KING + "; from 9 9");
        due("14 quarter", q.at(0, 0, 2, 0, 0), 2);
        due("14 half", q.at(1, 0, 2, 0, 0), 3);
        due("14 plane", q.at(2, 0, 2, 0, 0), 4);
        due("14 half: x below 0", q.at(1, 0, 3, -3, 0), 1);
        due("14 half: y below 0", q.at(1, 0, 3, 0, -3), 0);
        due("14 plane: both", q.at(2, 0, 3, -1, -2), 3);
        due("14 quarter: below 0", q.at(0, 0, 3, -1, 0), 0);
        due("14 weights", q.at(0, 2, 2, 3, 6), 12);
        due("14 farthest", q.at(0, 3, 60, 69, 69), 1);
        due("14 farthest down", q.at(2, 3, 60, -51, -51), 1);
        due("14 beyond", q.at(2, 3, 60, 70, -70), 0);
        due("14 none after no steps", q.at(0, 2, 0, 0, 0), 0);
        due("14 start", q.at(0, 2, 0, 2, 5), 1);
        int[][] wrong = {{-1, 0, 0, 0, 0}, {3, 0, 0, 0, 0}, {0, 4, 0, 0, 0}, {0, -1, 0, 0, 0}, {0, 0, 61, 0, 0},
            {0, 0, -1, 0, 0}, {0, 0, 0, 71, 0}, {0, 0, 0, -71, 0}, {0, 0, 0, 0, 71}, {0, 0, 0, 0, -71}};
        for (int[] w : wrong) {
            due("14 no such ones", q.at(w[0], w[1], w[2], w[3], w[4]), NONE);
        }
        due("14 70 is such a one", q.at(1, 0, 0, 70, -70), 0);
        int[] kreweras = {1, 0, 0, 2, 0, 0, 16, 0, 0, 192};
        for (int n = 0; n < kreweras.length; n++) {
            due("15 Kreweras " + n, q.series(1, 1, n), kreweras[n]);
        }
        due("15 modulo: 5 to the 9", q.series(2, 0, 9), 1953125 % 1000003);
        due("15 where y is 0", q.series(2, 2, 1), 0);
        due("15 where x is y", q.series(2, 4, 3), 8);
        due("15 where x is y, never", q.series(2, 4, 4), 0);
        due("15 where x is y, 4 of 5", q.series(2, 4, 5), 5 * 16 * 3);
        due("15 where x is 0", q.series(1, 3, 4), q.at(0, 1, 4, 0, 0) + q.at(0, 1, 4, 0, 1) + q.at(0, 1, 4, 0, 2)
            + q.at(0, 1, 4, 0, 3) + q.at(0, 1, 4, 0, 4));
        due("15 kind 5", q.series(0, 5, 0), NONE);
        due("15 kind -1", q.series(0, -1, 0), NONE);
        due("15 n 61", q.series(0, 0, 61), NONE);
        due("15 n -1", q.series(0, 0, -1), NONE);
    }

    private static void exactAndBridge() {
        QuarterWalks q = Check.with(CROSS, "n 9 e 9 s 9 w 9 ne 9 se 9 sw 9 nw 9", "n", "n 2", "n 9");
        due("16 exact 10", q.exact(0, 10, 0, 0), 42L * 132);
        due("16 n 31", q.exact(0, 31, 31, 0), 1);
        due("16 n 32", q.exact(0, 32, 31, 0), NONE);
        due("16 72 to the 10", q.exact(1, 10, 10, 10), 3486784401L);
        due("16 72 to the 11", q.exact(1, 11, 10, 10), NONE);
        due("16 1 to the 60", q.exact(2, 60, 0, 60), 1);
        due("16 2 to the 60", q.exact(3, 60, 0, 60), 1L << 60);
        due("16 9 to the 19", q.exact(4, 19, 0, 19), 1350851717672992089L);
        due("16 9 to the 20", q.exact(4, 20, 0, 20), NONE);
        due("16 none there", q.exact(0, 3, -1, 0), 0);
        due("16 n 61", q.exact(2, 61, 0, 0), NONE);
        due("16 n -1", q.exact(2, -1, 0, 0), NONE);
        due("16 x 71", q.exact(2, 0, 71, 0), NONE);
        due("16 y -71", q.exact(2, 0, 0, -71), NONE);
        due("17 bridge", q.bridge(0, 3, 1, 0), 1);
        due("17 less than at", q.at(0, 0, 3, 1, 0), 5);
        due("17 straight", q.bridge(0, 4, 2, 2), 6);
        due("17 no steps", q.bridge(0, 0, 0, 0), 1);
        due("17 below 0", q.bridge(0, 1, -1, 0), 0);
        QuarterWalks from = Check.with("s w; from 3 3");
        due("17 start is greater", from.bridge(0, 1, 2, 3), 0);
        due("17 start itself", from.bridge(0, 0, 3, 3), 1);
        due("17 n 61", q.bridge(0, 61, 0, 0), NONE);
        due("17 n -1", q.bridge(0, -1, 0, 0), NONE);
        due("17 x -71", q.bridge(0, 0, -71, 0), NONE);
        due("17 y 71", q.bridge(0, 0, 0, 71), NONE);
    }

    private static void reflectedAndRank() {
        QuarterWalks q = Check.with(CROSS, KREWERAS, "ne 2 se 2 sw 2 nw 2 n 3 s 3", "n s 2", "e w 2", "n s; from 1 2");
        due("18 as in the quarter", q.reflected(0, 10, 2, 4), q.at(0, 0, 10, 2, 4));
        due("18 weights", q.reflected(2, 9, 1, 1), q.at(0, 2, 9, 1, 1));
        due("18 from elsewhere", q.reflected(5, 4, 1, 2), q.at(2, 5, 4, 1, 2) - q.at(2, 5, 4, 1, -4));
        due("18 far", q.reflected(0, 60, 60, 60), 0);
        due("18 not even by both", q.reflected(1, 0, 0, 0), HIDDEN);
        due("18 not by y", q.reflected(3, 0, 0, 0), HIDDEN);
        due("18 not by x", q.reflected(4, 0, 0, 0), HIDDEN);
        int[][] wrong = {{6, 0, 0, 0}, {-1, 0, 0, 0}, {0, -1, 0, 0}, {0, 61, 0, 0}, {0, 0, -1, 0}, {0, 0, 61, 0},
            {0, 0, 0, -1}, {0, 0, 0, 61}};
        for (int[] w : wrong) {
            due("18 no such ones", q.reflected(w[0], w[1], w[2], w[3]), HIDDEN);
        }
        due("19 no steps", q.rank(0, 0), 1);
        due("19 both ways", q.rank(0, 12), 13);
        due("19 one line", q.rank(3, 7), 1);
        QuarterWalks far = Check.with("e; from 9 0", "s");
        due("19 within 12", far.rank(0, 3), 1);
        due("19 beyond 12", far.rank(0, 4), 0);
        due("19 no walk", far.rank(1, 1), 0);
        due("19 n 13", q.rank(0, 13), NONE);
        due("19 n -1", q.rank(0, -1), NONE);
    }

    private static void ratioHankelConvolved() {
        QuarterWalks q = Check.with(CROSS, "n 3");
        due("20 half", q.ratio(0, 0, 4) * 3 % 1000003, 10);
        due("20 by 0", q.ratio(0, 1, 2), NONE);
        due("20 of 0", q.ratio(0, 1, 3), 0);
        due("20 weights", q.ratio(1, 0, 60), 3);
        due("20 n 0", q.ratio(0, 0, 0), NONE);
        due("20 n 61", q.ratio(0, 0, 61), NONE);
        due("20 kind 5", q.ratio(0, 5, 1), NONE);
        due("20 kind -1", q.ratio(0, -1, 1), NONE);
        due("21 one", q.hankel(0, 0, 1), 1);
        // 1 2 6; 2 6 18; 6 18 60
        due("21 three", q.hankel(0, 0, 3), (6 * 60 - 18 * 18) - 2 * (2 * 60 - 18 * 6) + 6 * (2 * 18 - 6 * 6));
        due("21 powers", q.hankel(1, 0, 8), 0);
        // 0 1; 1 0: where y is 0
        QuarterWalks swap = Check.with("s; from 0 1");
        due("21 below 0", swap.hankel(0, 2, 2), 1000002);
        due("21 k 0", q.hankel(0, 0, 0), NONE);
        due("21 k 9", q.hankel(0, 0, 9), NONE);
        due("21 kind 5", q.hankel(0, 5, 1), NONE);
        due("22 convolved", q.convolved(0, 0, 1, 0, 2), 9 + 2 * 3 + 6);
        due("22 the other way", q.convolved(1, 0, 0, 1, 2), 9 + 2);
        due("22 itself", q.convolved(0, 1, 0, 1, 4), 10 + 4 + 10);
        due("22 kind 5", q.convolved(0, 5, 0, 0, 0), NONE);
        due("22 by 5", q.convolved(0, 0, 0, 5, 0), NONE);
        due("22 by -1", q.convolved(0, 0, 0, -1, 0), NONE);
        due("22 no other", q.convolved(0, 0, 2, 0, 0), NONE);
        due("22 n 61", q.convolved(0, 0, 0, 0, 61), NONE);
        due("22 n -1", q.convolved(0, 0, 0, 0, -1), NONE);
    }

    private static void outArchesValue() {
        QuarterWalks q = Check.with(CROSS, "sw 5 ne 2", KING, "n e; from 4 4", "e 9; from 0 9");
        due("23 both sides at once", q.out(1, 0), 5);
        due("23 out", q.out(1, 2), 2 * 5 * 5);
        due("23 none", q.out(1, 1), 0);
        due("23 five of eight", q.out(2, 0), 5);
        due("23 all that don't stay", q.out(2, 59), (8L * q.series(2, 0, 59) - q.series(2, 0, 60) + 1000003L) % 1000003);
        due("23 60", q.out(3, 60), 0);
        due("23 n 61", q.out(0, 61), NONE);
        due("23 n -1", q.out(0, -1), NONE);
        due("24 arches", q.arches(0, 4), 6);
        due("24 weights", q.arches(1, 2), 10);
        due("24 not again", q.arches(1, 4), 100);
        due("24 none", q.arches(3, 60), 0);
        due("24 odd", q.arches(0, 59), 0);
        due("24 n 0", q.arches(0, 0), NONE);
        due("24 n 61", q.arches(0, 61), NONE);
        due("25 value", q.value(0, 2, 2, 3), 27);
        due("25 at 1 1", q.value(0, 30, 1, 1), q.series(0, 0, 30));
        due("25 at 0 1", q.value(0, 30, 0, 1), q.series(0, 3, 30));
        due("25 at 1 0", q.value(0, 30, 1, 0), q.series(0, 2, 30));
        due("25 at 0 0", q.value(0, 30, 0, 0), q.at(0, 0, 30, 0, 0));
        due("25 0 to the 4", q.value(3, 0, 0, 0), 0);
        due("25 2 to the 4, 3 to the 4", q.value(3, 0, 2, 3), 1296);
        due("25 modulo", q.value(4, 1, 1000002, 1), 1000003 - 9);
        due("25 x below 0", q.value(0, 0, -1, 0), NONE);
        due("25 y below 0", q.value(0, 0, 0, -1), NONE);
        due("25 x too great", q.value(0, 0, 1000003, 0), NONE);
        due("25 y too great", q.value(0, 0, 0, 1000003), NONE);
        due("25 greatest", q.value(0, 0, 1000002, 1000002), 1);
        due("25 n 61", q.value(0, 61, 0, 0), NONE);
        due("25 n -1", q.value(0, -1, 0, 0), NONE);
    }

    private static void walksInOrder() {
        QuarterWalks q = Check.with("w 5 e 9", KING, KING + "; from 9 9");
        due("26 whatever their weights", q.walk(0, 4, 0, 0, -1, 0), 2);
        int[][] want = {{2, 2, 6, 6}, {2, 6, 2, 6}};
        for (int k = 0; k < 2; k++) {
            for (int i = 0; i < 4; i++) {
                due("26 walk " + k + " " + i, q.walk(0, 4, 0, 0, k, i), want[k][i]);
            }
        }
        due("26 no third", q.walk(0, 4, 0, 0, 2, 0), HIDDEN);
        due("26 k -2", q.walk(0, 4, 0, 0, -2, 0), HIDDEN);
        due("26 i 4", q.walk(0, 4, 0, 0, 0, 4), HIDDEN);
        due("26 i -1", q.walk(0, 4, 0, 0, 0, -1), HIDDEN);
        due("26 how many, whatever i", q.walk(0, 4, 0, 0, -1, 99), 2);
        due("26 none there", q.walk(0, 4, -2, 0, -1, 0), 0);
        due("26 none there, k", q.walk(0, 4, -2, 0, 0, 0), HIDDEN);
        due("26 no step of none", q.walk(0, 0, 0, 0, 0, 0), HIDDEN);
        due("26 far", q.walk(2, 10, 19, -70, -1, 0), 0);
        due("26 as many as exact", q.walk(2, 10, 9, 9, -1, 0), q.exact(2, 10, 9, 9));
        due("26 more than the prime", q.walk(2, 10, 10, 10, -1, 0), q.exact(2, 10, 10, 10));
        CHECK.due("26 indeed more", q.exact(2, 10, 10, 10) > 1000003, true);
        int last = q.walk(1, 10, 0, 0, -1, 0) - 1;
        due("26 the last", q.walk(1, 10, 0, 0, last, 0), 2);
        due("26 the last ends", q.walk(1, 10, 0, 0, last, 9), 6);
        int[][] wrong = {{3, 0, 0, 0}, {-1, 0, 0, 0}, {0, 11, 0, 0}, {0, -1, 0, 0}, {0, 0, 71, 0}, {0, 0, -71, 0},
            {0, 0, 0, 71}, {0, 0, 0, -71}};
        for (int[] w : wrong) {
            due("26 no such ones", q.walk(w[0], w[1], w[2], w[3], -1, 0), HIDDEN);
            due("27 no such ones", q.drawn(w[0], w[1], w[2], w[3], 0, 0), HIDDEN);
        }
    }

    private static void drawnAndPeak() {
        QuarterWalks q = Check.with("w 5 e 9", KING, "s", "n e", "w; from 3 5");
        // 1442695040888963407 shifted right by 33 is 167951807, an odd number: the second of two
        due("27 seed 0", q.drawn(0, 4, 0, 0, 0, 1), 6);
        due("27 seed 0, 2", q.drawn(0, 4, 0, 0, 0, 2), 2);
        // of seed 1: 7806831264735756412 shifted right by 33 is 908834774, even
        due("27 seed 1", q.drawn(0, 4, 0, 0, 1, 1), 2);
        // of seed -1 it goes round: 13525302890751722018 shifted right by 33 is 1574552488, even;
        // there are 5 walks of 6 STEPS, and 3 of these numbers is left modulo 5
        due("27 seed -1", q.drawn(0, 4, 0, 0, -1, 1), 2);
        int[] fourth = {2, 6, 2, 2, 6, 6};
        for (int i = 0; i < 6; i++) {
            due("27 seed -1 of five, " + i, q.drawn(0, 6, 0, 0, -1, i), fourth[i]);
        }
        due("27 no walk", q.drawn(0, 3, 0, 0, 0, 0), HIDDEN);
        due("27 i 4", q.drawn(0, 4, 0, 0, 0, 4), HIDDEN);
        due("27 i -1", q.drawn(0, 4, 0, 0, 0, -1), HIDDEN);
        due("27 no steps", q.drawn(0, 0, 0, 0, 0, 0), HIDDEN);
        due("28 x", q.peak(3, 3, 0), 1);
        due("28 y", q.peak(3, 3, 1), 2);
        due("28 how many", q.peak(3, 3, 2), 3);
        due("28 start", q.peak(4, 0, 0) * 10 + q.peak(4, 0, 1), 35);
        due("28 whatever weights", q.peak(0, 4, 2), 3);
        due("28 there", q.peak(0, 4, 0), 2);
        due("28 no walk", q.peak(2, 1, 0), HIDDEN);
        due("28 no walk any more", q.peak(4, 4, 2), HIDDEN);
        due("28 the last one", q.peak(4, 3, 2), 1);
        due("28 what 3", q.peak(3, 3, 3), HIDDEN);
        due("28 what -1", q.peak(3, 3, -1), HIDDEN);
        due("28 n 11", q.peak(3, 11, 0), HIDDEN);
        due("28 n -1", q.peak(3, -1, 0), HIDDEN);
    }

    private static void pointsFewestPeriodMeet() {
        QuarterWalks q = Check.with(CROSS, "n e", KREWERAS, "s", "ne; from 3 0", "n 9 e 9 s 9 w 9 ne 9 se 9 sw 9 nw 9", "n");
        due("29 diagonal", q.points(1, 60), 61);
        due("29 none", q.points(3, 1), 0);
        due("29 start", q.points(3, 0), 1);
        due("29 all", q.points(5, 60), 61 * 61);
        due("29 n 61", q.points(0, 61), NONE);
        due("29 n -1", q.points(0, -1), NONE);
        due("30 sum of both", q.fewest(0, 30, 30), 60);
        due("30 more than 60", q.fewest(0, 31, 30), NONE);
        due("30 never", q.fewest(1, -1, 0), NONE);
        due("30 start", q.fewest(4, 3, 0), 0);
        due("30 not there", q.fewest(4, 3, 1), NONE);
        due("30 round about", q.fewest(2, 2, 0), 4);
        due("30 x 71", q.fewest(0, 71, 0), NONE);
        due("30 y -71", q.fewest(0, 0, -71), NONE);
        due("31 two", q.period(0), 2);
        due("31 three", q.period(2), 3);
        due("31 one", q.period(5), 1);
        due("31 none", q.period(1), 0);
        due("32 itself", q.meet(0, 0, 2), 10);
        due("32 two", q.meet(0, 1, 2), 1 + 4 + 1);
        due("32 weights", q.meet(6, 5, 1), 9);
        due("32 apart", q.meet(0, 4, 0), 0);
        due("32 no other", q.meet(0, 7, 0), NONE);
        due("32 n 61", q.meet(0, 0, 61), NONE);
        due("32 n -1", q.meet(0, 0, -1), NONE);
    }

    private static void kernelAndTurns() {
        QuarterWalks q = Check.with("ne 2 w 3 s 4", "n", "e w", "e w s; from 2 2", "e 2 ne w n s");
        // 2 * 2 * 5 + 3 / 2 + 4 / 5 is 223 / 10
        due("33 kernel", (long) q.kernel(0, 2, 5) * 10 % 1000003, 223);
        due("33 greatest", q.kernel(0, 1000002, 1000002), (2 - 3 - 4 + 1000003) % 1000003);
        int[][] wrong = {{5, 1, 1}, {-1, 1, 1}, {0, 0, 1}, {0, 1, 0}, {0, 1000003, 1}, {0, 1, 1000003}, {0, -1, 1},
            {0, 1, LOW}};
        for (int[] w : wrong) {
            due("33 no such ones", q.kernel(w[0], w[1], w[2]), NONE);
            due("34 no such ones", q.turned(w[0], w[1], w[2], 0), NONE);
            due("35 no such ones", q.orbit(w[0], w[1], w[2], -1, 0), -2);
            due("37 no such ones", q.sum(w[0], w[1], w[2]), -2);
        }
        // x becomes 3 / (2 y x)
        due("34 turn 0", (long) q.turned(0, 2, 5, 0) * 20 % 1000003, 3);
        // y becomes 4 / (2 x y)
        due("34 turn 1", (long) q.turned(0, 2, 5, 1) * 20 % 1000003, 4);
        due("34 by 0", q.turned(1, 2, 5, 1), NONE);
        due("34 0 by 0", q.turned(1, 2, 5, 0), NONE);
        due("34 were 0", q.turned(2, 2, 5, 1), NONE);
        due("34 there is one", (long) q.turned(2, 2, 5, 0) * 2 % 1000003, 1);
        due("34 by 0 modulo: 2 and y", q.turned(4, 2, 1000001, 0), NONE);
        due("34 which 2", q.turned(0, 2, 5, 2), NONE);
        due("34 which -1", q.turned(0, 2, 5, -1), NONE);
    }

    private static void orbits() {
        QuarterWalks q = Check.with(CROSS, KREWERAS, "e w nw se", "n", "n e sw se", KING, "n e sw 2 w 3 se 5 nw");
        int[] groups = {4, 6, 8, NONE, NONE, 4};
        for (int set = 0; set < groups.length; set++) {
            due("36 group " + set, q.group(set), groups[set]);
            due("35 orbit " + set, q.orbit(set, 2, 3, -1, 0), groups[set]);
        }
        due("36 no such set", q.group(7), -2);
        due("36 no such set", q.group(-1), -2);
        due("35 first x", q.orbit(1, 2, 3, 0, 0), 2);
        due("35 first y", q.orbit(1, 2, 3, 0, 1), 3);
        due("35 by turn 0", q.orbit(1, 2, 3, 1, 0), q.turned(1, 2, 3, 0));
        due("35 y stays", q.orbit(1, 2, 3, 1, 1), 3);
        due("35 then turn 1", q.orbit(1, 2, 3, 2, 1), q.turned(1, q.turned(1, 2, 3, 0), 3, 1));
        due("35 the last", q.orbit(1, 2, 3, 5, 0), 2);
        due("35 no seventh", q.orbit(1, 2, 3, 6, 0), -2);
        due("35 k -2", q.orbit(1, 2, 3, -2, 0), -2);
        due("35 what 2", q.orbit(1, 2, 3, 0, 2), -2);
        due("35 what -1", q.orbit(1, 2, 3, 0, -1), -2);
        due("35 none, whatever pair", q.orbit(3, 2, 3, 9, 0), NONE);
        due("35 none, but what first", q.orbit(3, 2, 3, 0, 2), -2);
        due("35 none, whatever pair ahead", q.orbit(3, 2, 3, -2, 1), NONE);
        for (int what : new int[] {-1, 2, 3, LOW, Integer.MAX_VALUE}) {
            due("35 how many, what " + what, q.orbit(1, 2, 3, -1, what), 6);
            due("35 how many of none, what " + what, q.orbit(3, 2, 3, -1, what), NONE);
            due("35 how many of an endless one, what " + what, q.orbit(4, 2, 3, -1, what), NONE);
            due("35 no such set, what " + what, q.orbit(7, 2, 3, -1, what), -2);
            due("35 no such x, what " + what, q.orbit(1, 0, 3, -1, what), -2);
            due("35 no such y, what " + what, q.orbit(1, 2, 1000003, -1, what), -2);
            due("35 the first, what " + what, q.orbit(1, 2, 3, 0, what), -2);
            due("35 beyond, what " + what, q.orbit(4, 2, 3, 40, what), -2);
        }
        due("35 at 1 1 all stay, yet a turn 1 ends it", q.orbit(0, 1, 1, -1, 0), 2);
        due("37 all the same", q.sum(0, 1, 1), 0);
        // (x - 1/x) (y - 1/y) of 2, 3: 3/2 * 8/3
        due("37 sum", q.sum(0, 2, 3), 4);
        due("37 Kreweras: each product stands there twice", q.sum(1, 2, 3), 0);
        due("37 Kreweras", q.sum(1, 999, 123456), 0);
        due("37 none", q.sum(3, 2, 3), NONE);
        due("37 endless", q.sum(4, 2, 3), NONE);
    }

    private static void usesEnoughAlike() {
        QuarterWalks q = Check.with("s n e", "s e", "s", "sw; from 9 9", "w; from 9 0", "n e w", "e w", "e n s");
        due("38 all of use", q.noUse(0), 0);
        due("38 s is not", q.noUse(1), 0x10);
        due("38 s alone", q.noUse(2), 0x10);
        due("38 from afar", q.noUse(3), 0);
        due("38 w", q.noUse(4), 0);
        QuarterWalks less = Check.with("n e w", "n e s", "n e", CROSS, "s e", "s; from 0 9", "s 9 n 9; from 0 9");
        int[] enough = {2, 1, 3, 0, 1, 1, 1};
        for (int set = 0; set < enough.length; set++) {
            due("39 enough " + set, less.enough(set), enough[set]);
        }
        // By e and sw alone y goes below 0 after 12 STEPS from the one, after 13 from the other.
        QuarterWalks edge = Check.with("e sw; from 8 9", "e sw; from 7 9");
        due("39 not by the 12th", edge.enough(0), 0);
        due("39 the 13th doesn't count", edge.enough(1), 2);
        // From (0, 9) after 20: till then they are as many as by e and w.
        QuarterWalks late = Check.with("e w", "e sw; from 0 9", "e w; from 0 9", "e sw; from 1 9");
        due("40 unlike by the 20th", late.alike(1), 1);
        due("40 alike", late.alike(2), 0);
        QuarterWalks same = Check.with("n", "e", "n 2", "ne; from 3 3", "n; from 0 1", "w; from 9 0", "w 2; from 9 0");
        int[] alike = {0, 0, 2, 0, 0, 5, 6};
        for (int set = 0; set < alike.length; set++) {
            due("40 alike " + set, same.alike(set), alike[set]);
        }
        due("40 itself", q.alike(6), 6);
        due("40 mirrored", q.alike(5), 0);
        due("40 told otherwise", q.alike(7), 0);
    }

    private static void recurrences() {
        QuarterWalks q = Check.with("n 3", CROSS, "e w", "sw; from 0 1", "n e; from 5 0", "w; from 9 0");
        // a(n + 1) is 3 a(n)
        due("41 c(0, 0)", q.recurrence(0, 0, 1, 0, 0, 0), 1000000);
        due("41 c(1, 0)", q.recurrence(0, 0, 1, 0, 1, 0), 1);
        due("41 the last that isn't 0 the earliest", q.recurrence(0, 0, 2, 0, 2, 0), 0);
        due("41 so", q.recurrence(0, 0, 2, 0, 1, 0), 1);
        due("42 doesn't", q.fails(0, 0, 1, 0), NONE);
        due("41 none", q.recurrence(1, 0, 1, 0, 0, 0), NONE);
        due("42 none", q.fails(1, 0, 1, 0), -2);
        // 1, 0, 0, ..: n a(n) is 0
        due("41 n a(n)", q.recurrence(3, 0, 1, 1, 0, 1), 1);
        due("41 alone", q.recurrence(3, 0, 1, 1, 0, 0), 0);
        due("42 doesn't", q.fails(3, 0, 1, 1), NONE);
        // 9 ones less: 1 for n 0 to 9, then 0: found by n to 5 it fails at 9
        due("41 a(n + 1) less a(n)", q.recurrence(5, 0, 1, 0, 1, 0), 1);
        due("42 where", q.fails(5, 0, 1, 0), 9);
        // where x is 0: never from 5 on by n, e
        due("41 of noughts", q.recurrence(4, 3, 1, 0, 0, 0), 1);
        due("41 of noughts, the rest", q.recurrence(4, 3, 1, 0, 1, 0), 0);
        int[][] wrong = {{6, 0, 1, 0, 0, 0}, {-1, 0, 1, 0, 0, 0}, {0, 5, 1, 0, 0, 0}, {0, -1, 1, 0, 0, 0},
            {0, 0, 0, 0, 0, 0}, {0, 0, 5, 0, 0, 0}, {0, 0, 1, -1, 0, 0}, {0, 0, 1, 5, 0, 0}};
        for (int[] w : wrong) {
            due("41 no such ones", q.recurrence(w[0], w[1], w[2], w[3], w[4], w[5]), HIDDEN);
            due("42 no such ones", q.fails(w[0], w[1], w[2], w[3]), HIDDEN);
        }
        due("41 i 2", q.recurrence(0, 0, 1, 0, 2, 0), HIDDEN);
        due("41 i -1", q.recurrence(0, 0, 1, 0, -1, 0), HIDDEN);
        due("41 j 1", q.recurrence(0, 0, 1, 0, 0, 1), HIDDEN);
        due("41 j -1", q.recurrence(0, 0, 1, 0, 0, -1), HIDDEN);
        due("41 none, but i first", q.recurrence(1, 0, 1, 0, 2, 0), HIDDEN);
    }

    private static void equations() {
        QuarterWalks q = Check.with("n 3", CROSS, "e w", "w; from 9 0", "n 2 e 2");
        // (1 - 3 t) F - 1, times what makes its last c, -3, to 1
        due("43 c(1, 1)", q.equation(0, 0, 1, 1, 1, 1), 1);
        due("43 c(1, 0) times 3", (long) q.equation(0, 0, 1, 1, 1, 0) * 3 % 1000003, 1000002);
        due("43 c(0, 0) times 3", (long) q.equation(0, 0, 1, 1, 0, 0) * 3 % 1000003, 1);
        due("43 c(0, 1)", q.equation(0, 0, 1, 1, 0, 1), 0);
        due("44 doesn't", q.breaks(0, 0, 1, 1), NONE);
        due("43 none", q.equation(0, 0, 1, 0, 0, 0), NONE);
        due("44 none", q.breaks(0, 0, 1, 0), -2);
        due("43 Catalan: t^2 F^2 - F + 1", q.equation(2, 1, 2, 2, 2, 2), 1);
        due("43 Catalan: F", q.equation(2, 1, 2, 2, 1, 0), 1000002);
        due("43 Catalan: 1", q.equation(2, 1, 2, 2, 0, 0), 1);
        due("43 Catalan: F^2", q.equation(2, 1, 2, 2, 2, 0), 0);
        // 1 + t + .. + t^9 looks like 1 / (1 - t)
        due("44 where", q.breaks(3, 0, 1, 1), 10);
        int[][] wrong = {{5, 0, 1, 0, 0, 0}, {-1, 0, 1, 0, 0, 0}, {0, 5, 1, 0, 0, 0}, {0, -1, 1, 0, 0, 0},
            {0, 0, 0, 0, 0, 0}, {0, 0, 4, 0, 0, 0}, {0, 0, 1, -1, 0, 0}, {0, 0, 1, 7, 0, 0}};
        for (int[] w : wrong) {
            due("43 no such ones", q.equation(w[0], w[1], w[2], w[3], w[4], w[5]), HIDDEN);
            due("44 no such ones", q.breaks(w[0], w[1], w[2], w[3]), HIDDEN);
        }
        due("43 i 2", q.equation(0, 0, 1, 1, 2, 0), HIDDEN);
        due("43 i -1", q.equation(0, 0, 1, 1, -1, 0), HIDDEN);
        due("43 j 2", q.equation(0, 0, 1, 1, 0, 2), HIDDEN);
        due("43 j -1", q.equation(0, 0, 1, 1, 0, -1), HIDDEN);
    }

    private static void leastOnes() {
        QuarterWalks q = Check.with("n 3", "e w", "w; from 9 0", "e n; from 5 0", CROSS, KING);
        due("45 recurrence", q.least(0, 0, 0), 10);
        due("45 equation", q.least(0, 0, 1), 11);
        due("45 Catalan", q.least(1, 1, 1), 22);
        due("45 noughts: a(n) is 0", q.least(3, 3, 0), 10);
        due("45 noughts: F is 0", q.least(3, 3, 1), 10);
        CHECK.due("45 one that fails isn't", q.least(2, 0, 0) != 10, true);
        due("45 none", q.least(5, 0, 1), NONE);
        int least = q.least(4, 0, 0);
        due("45 it is there and doesn't fail", q.fails(4, 0, least / 10, least % 10), NONE);
        due("45 which 2", q.least(0, 0, 2), HIDDEN);
        due("45 which -1", q.least(0, 0, -1), HIDDEN);
        due("45 kind 5", q.least(0, 5, 0), HIDDEN);
        due("45 kind -1", q.least(0, -1, 0), HIDDEN);
    }

    private static void writtenOnes() {
        QuarterWalks q = Check.with("nw9w s 2n;from 0 3", KING, "  n 1 ; from 0 0 ");
        String[] want = {"n s 2 w nw 9; from 0 3", KING, "n"};
        for (int set = 0; set < want.length; set++) {
            CHECK.due("46 written " + set, Check.written(q, set).equals(want[set]), true);
            due("46 how many", q.written(set, -1), want[set].length());
            due("46 no such byte", q.written(set, want[set].length()), NONE);
            due("46 k -2", q.written(set, -2), NONE);
        }
        due("46 wild", q.written(0, HIGH), NONE);
    }

    private static void undoImageBack() {
        QuarterWalks q = new QuarterWalks();
        due("47 none", q.undo(), NONE);
        due("49 no image", q.back(), NONE);
        Check.tell(q, "n");
        due("52 acts", q.count(1), 1);
        due("48 image", q.image(), 1);
        due("48 is no act", q.count(1), 1);
        q.weigh(0, 0, 5);
        q.start(0, 1, 1);
        q.mirror(0);
        q.scale(1, 9);
        due("52 refused ones are none", q.count(1), 4);
        due("47 undo mirror", q.undo(), 3);
        due("47 sets", q.count(2), 1);
        due("47 undo start", q.undo(), 2);
        CHECK.due("47 so it was", Check.written(q, 0).equals("n 5"), true);
        due("49 back", q.back(), 1);
        CHECK.due("49 as it was kept", Check.written(q, 0).equals("n"), true);
        due("49 none can be undone", q.undo(), NONE);
        due("52 none", q.count(1), 0);
        for (int i = 0; i < 15; i++) {
            q.start(0, i % 10, 5);
        }
        due("52 the latest 12", q.count(1), 12);
        for (int i = 11; i >= 0; i--) {
            due("47 undo", q.undo(), i);
        }
        due("47 no more", q.undo(), NONE);
        CHECK.due("47 the third of them stays", Check.written(q, 0).equals("n; from 2 5"), true);
        due("6 drop", q.drop(0), 0);
        due("48 an empty one", q.image(), 0);
        due("47 undo drop", q.undo(), 0);
        due("47 it is there", q.count(2), 1);
        due("49 back to none", q.back(), 0);
        due("49 again", q.back(), 0);
        due("52 sets", q.count(2), 0);
        Check.tell(q, "e");
        due("52 tape", q.count(0), 0);
        q.undo();
        due("47 the tape is no part of the book", q.count(0), 0);
    }

    private static void statusMostCount() {
        QuarterWalks q = new QuarterWalks();
        for (int what = 0; what < 4; what++) {
            due("50 none yet", q.status(what), 0);
        }
        due("50 what 4", q.status(4), NONE);
        due("50 what -1", q.status(-1), NONE);
        due("50 wild", q.status(LOW), NONE);
        for (int what = -1; what <= 5; what++) {
            due("51 an empty book", q.most(what), what == 3 ? 0 : NONE);
        }
        for (String text : new String[] {"n 9", CROSS, CROSS, "n 9", "n; from 1 0", KREWERAS + " n", "n 2 ne 5 w s e"}) {
            Check.tell(q, text);
        }
        due("51 most steps", q.most(0), 6);
        due("51 greatest W", q.most(1), 6);
        due("51 greatest group", q.most(2), 1);
        due("51 unlike", q.most(3), 5);
        due("51 all have", q.most(4), 1);
        due("51 what 5", q.most(5), NONE);
        due("51 what -1", q.most(-1), NONE);
        q.drop(6);
        due("51 most steps, the lowest", q.most(0), 1);
        due("51 greatest W, the lowest", q.most(1), 0);
        Check.tell(q, "e");
        due("51 none have all", q.most(4), 0);
        QuarterWalks none = Check.with("n", "e");
        due("51 none has a group: the lowest", none.most(2), 0);
        due("52 acts", none.count(1), 2);
        due("52 sets", none.count(2), 2);
        Check.feed(none, "abc");
        due("52 bytes", none.count(0), 3);
        due("52 what 3", none.count(3), NONE);
        due("52 what -1", none.count(-1), NONE);
    }

    private static void noSuchSets() {
        QuarterWalks q = Check.with(CROSS);
        for (int set : new int[] {-1, 1, 8, LOW, HIGH}) {
            due("at", q.at(0, set, 0, 0, 0), NONE);
            due("series", q.series(set, 0, 0), NONE);
            due("exact", q.exact(set, 0, 0, 0), NONE);
            due("bridge", q.bridge(set, 0, 0, 0), NONE);
            due("reflected", q.reflected(set, 0, 0, 0), HIDDEN);
            due("rank", q.rank(set, 0), NONE);
            due("ratio", q.ratio(set, 0, 1), NONE);
            due("hankel", q.hankel(set, 0, 1), NONE);
            due("convolved", q.convolved(set, 0, 0, 0, 0), NONE);
            due("convolved", q.convolved(0, 0, set, 0, 0), NONE);
            due("out", q.out(set, 0), NONE);
            due("arches", q.arches(set, 1), NONE);
            due("value", q.value(set, 0, 1, 1), NONE);
            due("peak", q.peak(set, 0, 0), HIDDEN);
            due("points", q.points(set, 0), NONE);
            due("fewest", q.fewest(set, 0, 0), NONE);
            due("period", q.period(set), NONE);
            due("meet", q.meet(set, 0, 0), NONE);
            due("meet", q.meet(0, set, 0), NONE);
            due("group", q.group(set), -2);
            due("noUse", q.noUse(set), NONE);
            due("enough", q.enough(set), NONE);
            due("alike", q.alike(set), NONE);
            due("least", q.least(set, 0, 0), HIDDEN);
            due("written", q.written(set, -1), NONE);
        }
        for (int what = 0; what < 4; what++) {
            due("asking is no act", q.status(what), 0);
        }
    }
}
