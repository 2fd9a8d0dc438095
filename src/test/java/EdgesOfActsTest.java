import java.util.function.ToIntFunction;

/** Promises 5 to 12 and 47 to 52: each sentence that names a boundary case, by its words. */
public final class EdgesOfActsTest {
    private static final Check CHECK = new Check();
    private static final int NONE = -1;
    private static final int LOW = Integer.MIN_VALUE;
    private static final int HIGH = Integer.MAX_VALUE;
    private static final int NO_SET = 0;
    private static final int BOUNDS = 1;
    private static final int EIGHT = 2;
    private static final int SO_ALREADY = 3;
    private static final int[] NO_SETS_OF_EIGHT = {-1, 8, 9, LOW, HIGH};

    public static void main(String[] args) {
        tellNumbers();
        tellRefused();
        tellFull();
        drops();
        dropsRefused();
        mirrors();
        turns();
        mirrorsAndTurnsRefused();
        joins();
        joinsRefused();
        scales();
        scalesRefused();
        weighs();
        weighsRefused();
        starts();
        startsRefused();
        undoneEach();
        undoneTwelve();
        undoneAgain();
        images();
        backs();
        statuses();
        mosts();
        mostGroups();
        counts();
        CHECK.close();
    }

    private static void due(String call, long got, long want) {
        CHECK.due(call, got, want);
    }

    private static void written(String call, QuarterWalks q, int set, String want) {
        CHECK.due(call + ": " + Check.written(q, set), Check.written(q, set).equals(want), true);
    }

    private static QuarterWalks empty() {
        return new QuarterWalks();
    }

    private static QuarterWalks one() {
        return Check.with("n 5");
    }

    private static QuarterWalks three() {
        return Check.with("n", "e 9 w 2; from 3 4", "s 5 ne 5");
    }

    private static QuarterWalks seven() {
        return Check.with("n", "e 9 w 2; from 3 4", "s 5 ne 5", "w", "n", "ne 2 sw 3; from 0 9", "nw");
    }

    private static QuarterWalks eight() {
        return Check.with("n", "e 9 w 2; from 3 4", "s 5 ne 5", "w", "n", "ne 2 sw 3; from 0 9", "nw", "se 4; from 9 0");
    }

    /** With that text on its TAPE. */
    private static QuarterWalks fed(QuarterWalks q, String text) {
        Check.feed(q, text);
        return q;
    }

    private static void refusedOfNone(String call, int why, ToIntFunction<QuarterWalks> act) {
        Look.refused(CHECK, call + " of an empty book", why, () -> fed(empty(), "e 3 ?"), act);
    }

    private static void refusedOfOne(String call, int why, ToIntFunction<QuarterWalks> act) {
        Look.refused(CHECK, call + " of one", why, () -> fed(one(), "e 3 ?"), act);
    }

    private static void refusedOfThree(String call, int why, ToIntFunction<QuarterWalks> act) {
        Look.refused(CHECK, call + " of three", why, () -> fed(three(), "e 3 ?"), act);
    }

    private static void refusedOfEight(String call, int why, ToIntFunction<QuarterWalks> act) {
        Look.refused(CHECK, call + " of eight", why, () -> fed(eight(), "e 3 ?"), act);
    }

    /** No such SET: of an empty BOOK, of one of three, of one of eight. */
    private static void refusedWithoutSet(String call, java.util.function.ToIntBiFunction<QuarterWalks, Integer> act) {
        for (int set : new int[] {-1, 0, 1, 7, 8, LOW, HIGH}) {
            refusedOfNone(call + set, NO_SET, q -> act.applyAsInt(q, set));
        }
        for (int set : new int[] {-1, 3, 4, 7, LOW, HIGH}) {
            refusedOfThree(call + set, NO_SET, q -> act.applyAsInt(q, set));
        }
        for (int set : NO_SETS_OF_EIGHT) {
            refusedOfEight(call + set, NO_SET, q -> act.applyAsInt(q, set));
        }
    }

    private static void tellNumbers() {
        QuarterWalks q = empty();
        for (int i = 0; i < 8; i++) {
            CHECK.by("5 its number");
            due("the " + i + "th", Check.tell(q, "n"), i);
            CHECK.by("5 The TAPE (empty then)");
            due("bytes", q.count(0), 0);
            CHECK.by("5 comes to the BOOK");
            due("sets", q.count(2), i + 1);
        }
        due("the same SET told again is another one", q.count(2), 8);
    }

    private static void tellRefused() {
        CHECK.by("5 NONE: a FAULT (STATUS 0); the TAPE stays");
        Look.refused(CHECK, "tell of an empty tape and book", NO_SET, EdgesOfActsTest::empty, q -> q.tell());
        String full = " ".repeat(199);
        for (String text : new String[] {"", " ", "x", "n n", "n 0", "n 10", "n;", "n;from 1", "n;from 1 2 3", full + "x",
            full + " "}) {
            CHECK.by("5 NONE: a FAULT (STATUS 0); the TAPE stays");
            Look.refused(CHECK, "tell '" + text + "'", NO_SET, () -> fed(one(), text), q -> q.tell());
            CHECK.by("5 a FAULT (STATUS 0), there are eight (2); of several the first");
            Look.refused(CHECK, "tell '" + text + "' of eight", NO_SET, () -> fed(eight(), text), q -> q.tell());
        }
    }

    private static void tellFull() {
        CHECK.by("5 NONE: there are eight (2); the TAPE stays");
        Look.refused(CHECK, "tell of eight", EIGHT, () -> fed(eight(), "sw 7; from 1 2"), q -> q.tell());
        String full = " ".repeat(199) + "n";
        Look.refused(CHECK, "tell of eight, a full tape", EIGHT, () -> fed(eight(), full), q -> q.tell());
        due("a full tape of seven", fed(seven(), full).tell(), 7);
        QuarterWalks q = fed(eight(), "sw 7; from 1 2");
        due("the ninth", q.tell(), NONE);
        due("a place for it", q.drop(0), 7);
        due("told then", q.tell(), 7);
        written("the tape as it stayed", q, 7, "sw 7; from 1 2");
        due("of seven", Check.tell(seven(), "e"), 7);
    }

    private static void drops() {
        CHECK.by("6 A SET goes (those behind it have numbers 1 less): how many there are");
        String[] all = {"n", "ne 2 s 5", "e", "se", "s", "sw", "w; from 9 9", "nw 9"};
        for (int gone = 0; gone < 8; gone++) {
            QuarterWalks q = Check.with(all);
            due("drop " + gone, q.drop(gone), 7);
            for (int set = 0; set < 7; set++) {
                written("drop " + gone + ", set " + set, q, set, all[set < gone ? set : set + 1]);
            }
            due("no eighth any more", Check.ruleThrows(q, 7, 0), 1);
        }
        QuarterWalks last = one();
        due("the only one", last.drop(0), 0);
        due("no set 0 any more", Check.ruleThrows(last, 0, 0), 1);
        due("a new one is 0", Check.tell(last, "e"), 0);
    }

    private static void dropsRefused() {
        CHECK.by("6 NONE: no such one (STATUS 0)");
        refusedWithoutSet("drop ", (q, set) -> q.drop(set));
    }

    private static void mirrors() {
        CHECK.by("7 x and y change places, START's too");
        String[] names = {"e", "ne", "n", "nw", "w", "sw", "s", "se"};
        for (int step = 0; step < 8; step++) {
            QuarterWalks q = Check.with(Plain.NAMES[step] + " 3; from 0 9");
            due("mirror", q.mirror(0), 1);
            written("mirrored", q, 1, names[step] + " 3; from 9 0");
            written("the first stays", q, 0, Plain.NAMES[step] + " 3; from 0 9");
        }
        due("of seven", seven().mirror(6), 7);
    }

    private static void turns() {
        CHECK.by("8 each STEP the opposite one; START as it is");
        String[] names = {"s", "sw", "w", "nw", "n", "ne", "e", "se"};
        for (int step = 0; step < 8; step++) {
            QuarterWalks q = Check.with(Plain.NAMES[step] + " 3; from 0 9");
            due("turn", q.turn(0), 1);
            written("turned round", q, 1, names[step] + " 3; from 0 9");
            written("the first stays", q, 0, Plain.NAMES[step] + " 3; from 0 9");
        }
        due("of seven", seven().turn(6), 7);
    }

    private static void mirrorsAndTurnsRefused() {
        CHECK.by("7 NONE: no such one (STATUS 0), there are eight (2), of several the first");
        refusedWithoutSet("mirror ", (q, set) -> q.mirror(set));
        refusedOfEight("mirror 0", EIGHT, q -> q.mirror(0));
        refusedOfEight("mirror 7", EIGHT, q -> q.mirror(7));
        CHECK.by("8 NONE likewise");
        refusedWithoutSet("turn ", (q, set) -> q.turn(set));
        refusedOfEight("turn 0", EIGHT, q -> q.turn(0));
        refusedOfEight("turn 7", EIGHT, q -> q.turn(7));
    }

    private static void joins() {
        CHECK.by("9 STEPS of two SETS, WEIGHTS added, START of the first");
        QuarterWalks q = Check.with("n 4 e; from 1 2", "n 5 s 9; from 3 4", "w");
        due("4 and 5 is 9", q.join(0, 1), 3);
        written("joined", q, 3, "n 9 e s 9; from 1 2");
        due("the other way", q.join(1, 0), 4);
        written("joined the other way", q, 4, "n 9 e s 9; from 3 4");
        due("9 and none", q.join(2, 1), 5);
        written("none of the same", q, 5, "n 5 s 9 w");
        due("with itself", q.join(2, 2), 6);
        written("twice", q, 6, "w 2");
        due("the last place", q.join(6, 2), 7);
        written("in the eighth", q, 7, "w 3");
    }

    private static void joinsRefused() {
        CHECK.by("9 NONE: no such ones (STATUS 0)");
        refusedWithoutSet("join 0 and ", (q, set) -> q.join(0, set));
        refusedWithoutSet("join with 0 ", (q, set) -> q.join(set, 0));
        refusedWithoutSet("join of both ", (q, set) -> q.join(set, set));
        CHECK.by("9 NONE: a WEIGHT above 9 (1)");
        for (int step = 0; step < 8; step++) {
            String name = Plain.NAMES[step];
            Look.refused(CHECK, "9 and 1 of " + name, BOUNDS, () -> Check.with(name + " 9", name), q -> q.join(0, 1));
            Look.refused(CHECK, "1 and 9 of " + name, BOUNDS, () -> Check.with(name + " 9", name), q -> q.join(1, 0));
            Look.refused(CHECK, "5 and 5 of " + name, BOUNDS, () -> Check.with(name + " 5"), q -> q.join(0, 0));
        }
        CHECK.by("9 NONE: there are eight (2)");
        refusedOfEight("join 0 and 7", EIGHT, q -> q.join(0, 7));
        CHECK.by("9 of several the first");
        refusedOfEight("join above 9", BOUNDS, q -> q.join(2, 2));
        refusedOfEight("join above 9, of the last but two", BOUNDS, q -> q.join(1, 1));
    }

    private static void scales() {
        CHECK.by("10 so many times (2 to 9) as great: W then");
        for (int by = 2; by <= 9; by++) {
            QuarterWalks q = Check.with("n e; from 2 1");
            due("by " + by, q.scale(0, by), 2 * by);
            written("by " + by, q, 0, "n " + by + " e " + by + "; from 2 1");
            due("no other comes", q.count(2), 1);
        }
        int[][] greatest = {{4, 2, 8}, {3, 3, 9}, {2, 4, 8}, {1, 9, 9}};
        for (int[] g : greatest) {
            due(g[0] + " by " + g[1], Check.with("s " + g[0]).scale(0, g[1]), g[2]);
        }
        QuarterWalks all = Check.with("n 3 ne 3 e 3 se 3 s 3 sw 3 w 3 nw 3");
        due("all to 9", all.scale(0, 3), 72);
        due("the last of eight", eight().scale(7, 2), 8);
    }

    private static void scalesRefused() {
        CHECK.by("10 NONE: no such SET (STATUS 0), of several the first");
        refusedWithoutSet("scale by 2 ", (q, set) -> q.scale(set, 2));
        refusedWithoutSet("scale by 1 ", (q, set) -> q.scale(set, 1));
        refusedWithoutSet("scale by 10 ", (q, set) -> q.scale(set, 10));
        CHECK.by("10 NONE: not 2 to 9 (1)");
        for (int by : new int[] {1, 10, 0, -1, -2, LOW, HIGH, 1 << 30, 1 << 31, (1 << 30) + 1, 1 << 29}) {
            Look.refused(CHECK, "scale of 1 by " + by, BOUNDS, () -> Check.with("n"), q -> q.scale(0, by));
            Look.refused(CHECK, "scale of 4 by " + by, BOUNDS, () -> Check.with("n 4"), q -> q.scale(0, by));
        }
        CHECK.by("10 NONE: a WEIGHT above 9 (1)");
        int[][] above = {{5, 2}, {9, 2}, {4, 3}, {3, 4}, {2, 5}, {2, 9}, {9, 9}};
        for (int[] a : above) {
            Look.refused(CHECK, a[0] + " by " + a[1], BOUNDS, () -> Check.with("n nw " + a[0]), q -> q.scale(0, a[1]));
            Look.refused(CHECK, a[0] + " by " + a[1], BOUNDS, () -> Check.with("n " + a[0] + " w"), q -> q.scale(0, a[1]));
        }
    }

    private static void weighs() {
        CHECK.by("11 A STEP has another WEIGHT (0: it goes, or isn't there): what it was");
        for (int step = 0; step < 8; step++) {
            QuarterWalks q = Check.with("n ne e se s sw w nw; from 5 6");
            due("to 9", q.weigh(0, step, 9), 1);
            due("to 1", q.weigh(0, step, 1), 9);
            due("it goes", q.weigh(0, step, 0), 1);
            due("seven are left", q.rule(0, 8), 7);
            due("it comes", q.weigh(0, step, 9), 0);
            due("its weight", q.rule(0, step), 9);
            due("start stays", 10 * q.rule(0, 10) + q.rule(0, 11), 56);
        }
        QuarterWalks two = Check.with("n e");
        due("one of two goes", two.weigh(0, 0, 0), 1);
        due("the other comes to another weight", two.weigh(0, 2, 2), 1);
        due("the last of eight", eight().weigh(7, 7, 1), 0);
    }

    private static void weighsRefused() {
        CHECK.by("11 NONE: no such SET (STATUS 0), of several the first");
        refusedWithoutSet("weigh 0 to 2 ", (q, set) -> q.weigh(set, 0, 2));
        refusedWithoutSet("weigh 8 to 2 ", (q, set) -> q.weigh(set, 8, 2));
        refusedWithoutSet("weigh 0 to 10 ", (q, set) -> q.weigh(set, 0, 10));
        refusedWithoutSet("weigh 0 to 0 ", (q, set) -> q.weigh(set, 0, 0));
        CHECK.by("11 NONE: no such STEP (1)");
        for (int step : new int[] {-1, 8, 9, LOW, HIGH}) {
            refusedOfThree("weigh " + step + " to 2", BOUNDS, q -> q.weigh(0, step, 2));
            refusedOfThree("weigh " + step + " to 0", BOUNDS, q -> q.weigh(0, step, 0));
            refusedOfThree("weigh " + step + " to 10", BOUNDS, q -> q.weigh(0, step, 10));
        }
        CHECK.by("11 NONE: not 0 to 9 (1)");
        for (int weight : new int[] {-1, 10, 11, LOW, HIGH}) {
            refusedOfThree("weigh 0 to " + weight, BOUNDS, q -> q.weigh(0, 0, weight));
            refusedOfThree("weigh 7 to " + weight, BOUNDS, q -> q.weigh(0, 7, weight));
        }
        CHECK.by("11 NONE: no STEP would be left (1)");
        refusedOfOne("weigh 0 to 0", BOUNDS, q -> q.weigh(0, 0, 0));
        for (int step = 0; step < 8; step++) {
            int only = step;
            String text = Plain.NAMES[step] + " 9";
            Look.refused(CHECK, "the only one of " + text, BOUNDS, () -> Check.with(text), q -> q.weigh(0, only, 0));
        }
        CHECK.by("11 NONE: it is so already (3)");
        refusedOfOne("weigh 0 to 5", SO_ALREADY, q -> q.weigh(0, 0, 5));
        for (int step = 1; step < 8; step++) {
            int none = step;
            refusedOfOne("weigh what isn't there to 0", SO_ALREADY, q -> q.weigh(0, none, 0));
        }
        refusedOfThree("weigh e to 9", SO_ALREADY, q -> q.weigh(1, 2, 9));
    }

    private static void starts() {
        CHECK.by("12 START becomes (x, y): 10 times x and y as they were");
        QuarterWalks q = Check.with("n 2 w");
        int[][] to = {{9, 9}, {0, 9}, {9, 0}, {0, 0}, {0, 1}, {1, 1}, {1, 0}};
        int was = 0;
        for (int[] t : to) {
            due("start " + t[0] + " " + t[1], q.start(0, t[0], t[1]), was);
            due("x", q.rule(0, 10), t[0]);
            due("y", q.rule(0, 11), t[1]);
            was = 10 * t[0] + t[1];
        }
        written("the steps stay", q, 0, "n 2 w; from 1 0");
        due("the last of eight", eight().start(7, 0, 0), 90);
    }

    private static void startsRefused() {
        CHECK.by("12 NONE: no such SET (STATUS 0), of several the first");
        refusedWithoutSet("start 1 1 ", (q, set) -> q.start(set, 1, 1));
        refusedWithoutSet("start 10 1 ", (q, set) -> q.start(set, 10, 1));
        refusedWithoutSet("start 0 0 ", (q, set) -> q.start(set, 0, 0));
        CHECK.by("12 NONE: not 0 to 9 (1)");
        for (int wrong : new int[] {-1, 10, LOW, HIGH}) {
            refusedOfThree("start x " + wrong, BOUNDS, q -> q.start(1, wrong, 4));
            refusedOfThree("start y " + wrong, BOUNDS, q -> q.start(1, 3, wrong));
            refusedOfThree("start both " + wrong, BOUNDS, q -> q.start(1, wrong, wrong));
        }
        // 10 times x and y of these would be that of (3, 4).
        refusedOfThree("start 2 14", BOUNDS, q -> q.start(1, 2, 14));
        refusedOfThree("start 4 -6", BOUNDS, q -> q.start(1, 4, -6));
        CHECK.by("12 NONE: it is so already (3)");
        refusedOfThree("start 3 4", SO_ALREADY, q -> q.start(1, 3, 4));
        refusedOfThree("start 0 0", SO_ALREADY, q -> q.start(0, 0, 0));
    }

    private static void undoneEach() {
        CHECK.by("47 The latest ACT is UNDONE");
        undone("tell", q -> Check.tell(q, "w"));
        undone("drop", q -> q.drop(0));
        undone("mirror", q -> q.mirror(1));
        undone("turn", q -> q.turn(1));
        undone("join", q -> q.join(0, 1));
        undone("scale", q -> q.scale(0, 9));
        undone("weigh", q -> q.weigh(1, 2, 0));
        undone("start", q -> q.start(1, 0, 0));
        CHECK.by("ACTS: what changes the BOOK");
        QuarterWalks q = three();
        Look.only(CHECK, "series", 1, q, o -> o.series(0, 0, 60));
        Look.only(CHECK, "at of none", NONE, q, o -> o.at(0, 9, 0, 0, 0));
        Look.only(CHECK, "image", 3, q, o -> o.image());
        Look.only(CHECK, "end", 1, q, o -> o.end(0) ? 1 : 0);
        QuarterWalks fed = fed(three(), "n e");
        due("undo of tell", fed.undo(), 2);
        due("the tape is no part of the BOOK", fed.count(0), 3);
    }

    private static void undone(String name, ToIntFunction<QuarterWalks> act) {
        QuarterWalks q = fed(three(), name.equals("tell") ? "" : "e 3 ?");
        Look ahead = new Look(q);
        CHECK.due(name, act.applyAsInt(q) >= 0, true);
        due(name + " can be undone", q.count(1), 4);
        due(name + " has its own tape alone", q.count(0), name.equals("tell") ? 0 : 5);
        due(name + " undone", q.undo(), 3);
        CHECK.due(name + ": all as it was", new Look(q).isAs(ahead), true);
    }

    private static void undoneTwelve() {
        CHECK.by("ACTS: the latest 12 can be UNDONE");
        for (int acts = 1; acts <= 26; acts++) {
            QuarterWalks q = Check.with("n");
            for (int i = 1; i < acts; i++) {
                q.start(0, i / 10, i % 10);
                q.start(0, 10, 0);
            }
            int can = Math.min(acts, 12);
            due(acts + " acts", q.count(1), can);
            for (int left = can - 1; left >= 0; left--) {
                CHECK.by("47 how many still can be");
                due("undo of " + acts, q.undo(), left);
                due("count", q.count(1), left);
            }
            CHECK.by("47 NONE: none");
            Look.only(CHECK, "undo of no more", NONE, q, o -> o.undo());
            CHECK.by("ACTS: the one behind the oldest stays");
            due("sets", q.count(2), acts <= 12 ? 0 : 1);
            if (acts > 12) {
                due("start of " + acts, 10 * q.rule(0, 10) + q.rule(0, 11), acts - 13);
            }
        }
        CHECK.by("47 NONE: none");
        Look.only(CHECK, "undo of a new one", NONE, empty(), q -> q.undo());
    }

    private static void undoneAgain() {
        CHECK.by("47 how many still can be, ACTS behind UNDONE ones");
        QuarterWalks q = Check.with("n");
        for (int i = 1; i <= 14; i++) {
            q.weigh(0, 0, 1 + i % 9);
        }
        due("undo", q.undo(), 11);
        due("undo", q.undo(), 10);
        due("weight behind two", q.rule(0, 0), 1 + 12 % 9);
        due("another act", q.start(0, 1, 1), 0);
        due("acts", q.count(1), 11);
        due("and another", q.mirror(0), 1);
        due("acts", q.count(1), 12);
        due("and one that pushes the oldest out", q.turn(0), 2);
        due("acts", q.count(1), 12);
        for (int left = 11; left >= 0; left--) {
            due("undo", q.undo(), left);
        }
        due("no more", q.undo(), NONE);
        due("the weight behind the fourth", q.rule(0, 0), 1 + 3 % 9);
        due("undone is no act", q.count(1), 0);
    }

    private static void images() {
        CHECK.by("48 An IMAGE: how many SETS");
        due("of none", empty().image(), 0);
        due("of one", one().image(), 1);
        due("of eight", eight().image(), 8);
        CHECK.by("48 (instead of the one ahead)");
        QuarterWalks q = three();
        due("image", q.image(), 3);
        q.drop(1);
        due("another image", q.image(), 2);
        q.drop(0);
        q.drop(0);
        due("back", q.back(), 2);
        written("as it was at the later", q, 1, "ne 5 s 5");
        CHECK.by("48 An IMAGE keeps it, ACTS and UNDO behind it");
        QuarterWalks kept = three();
        kept.image();
        kept.scale(0, 9);
        kept.weigh(1, 2, 0);
        kept.undo();
        kept.undo();
        kept.undo();
        kept.undo();
        due("two undone that were ahead of the image", kept.count(2), 1);
        due("back", kept.back(), 3);
        due("acts", kept.count(1), 0);
        written("the first", kept, 0, "n");
        written("the second", kept, 1, "e 9 w 2; from 3 4");
        written("the third", kept, 2, "ne 5 s 5");
    }

    private static void backs() {
        CHECK.by("49 NONE: no IMAGE");
        Look.only(CHECK, "back of a new one", NONE, empty(), q -> q.back());
        Look.only(CHECK, "back of eight", NONE, eight(), q -> q.back());
        CHECK.by("49 All it keeps is so again (no ACT can be UNDONE then): how many SETS");
        QuarterWalks q = fed(eight(), "n x");
        q.tell();
        due("image", q.image(), 8);
        due("back at once", q.back(), 8);
        due("no act", q.count(1), 0);
        due("no undo", q.undo(), NONE);
        q.drop(7);
        q.drop(0);
        due("two acts", q.count(1), 2);
        due("back", q.back(), 8);
        due("no act", q.count(1), 0);
        due("no undo", q.undo(), NONE);
        due("sets", q.count(2), 8);
        due("back again", q.back(), 8);
        due("an act behind it", q.scale(7, 2), 8);
        due("can be undone", q.undo(), 0);
        written("so it was", q, 7, "se 4; from 9 0");
        CHECK.by("49 An IMAGE keeps the BOOK: TAPE and STATUS stay");
        due("tape", q.count(0), 3);
        due("fault", q.fault(), 2);
        due("status", q.status(NO_SET), 1);
        CHECK.by("49 of an empty BOOK");
        QuarterWalks none = empty();
        none.image();
        Check.tell(none, "n");
        due("back", none.back(), 0);
        due("sets", none.count(2), 0);
        due("no undo", none.undo(), NONE);
        due("eight come again", Check.tell(none, "n"), 0);
    }

    private static void statuses() {
        CHECK.by("50 NONE: no such what");
        QuarterWalks q = one();
        for (int what : new int[] {-1, 4, 5, LOW, HIGH}) {
            Look.only(CHECK, "status " + what, NONE, q, o -> o.status(what));
        }
        CHECK.by("50 STATUS: how many calls that are ACTS were refused");
        for (int i = 1; i <= 20; i++) {
            q.drop(1);
            due("0, no such SET", q.status(0), 2 * i - 1);
            q.tell();
            due("0, a FAULT", q.status(0), 2 * i);
            q.scale(0, 10);
            due("1", q.status(1), i);
            q.start(0, 0, 0);
            due("3", q.status(3), i);
            due("2", q.status(2), 0);
        }
        CHECK.by("50 STATUS stays behind UNDO and back");
        q.image();
        q.undo();
        q.back();
        due("0", q.status(0), 40);
        due("1", q.status(1), 20);
        due("3", q.status(3), 20);
        CHECK.by("50 ACTS alone: what is asked in vain doesn't count");
        QuarterWalks asked = eight();
        asked.undo();
        Look.only(CHECK, "written", NONE, asked, o -> o.written(8, 0));
        Look.only(CHECK, "orbit", -2, asked, o -> o.orbit(8, 0, 0, 0, 0));
        Look.only(CHECK, "rule", 1, asked, o -> Check.ruleThrows(o, 8, 0));
        Look.only(CHECK, "back", NONE, asked, o -> o.back());
    }

    private static void mosts() {
        CHECK.by("51 NONE: an empty BOOK (but 0 of 3), no such what");
        for (int what : new int[] {0, 1, 2, 4, -1, 5, LOW, HIGH}) {
            due("of none, " + what, empty().most(what), NONE);
        }
        due("of none, 3", empty().most(3), 0);
        for (int what : new int[] {-1, 5, LOW, HIGH}) {
            due("of eight, " + what, eight().most(what), NONE);
        }
        CHECK.by("51 most STEPS, of several the lowest");
        due("of one", one().most(0), 0);
        due("of eight", eight().most(0), 1);
        due("the last", Check.with("n", "n e", "n", "n e", "n e s").most(0), 4);
        CHECK.by("51 the greatest W, of several the lowest");
        due("of one", one().most(1), 0);
        due("of eight", eight().most(1), 1);
        due("fewer STEPS", Check.with("n e s", "n 9", "n 3 s 6", "n 9").most(1), 1);
        due("the last", Check.with("n e s", "n 9", "n 5 s 5").most(1), 2);
        CHECK.by("51 how many unlike SETS (WEIGHTS, START) there are");
        due("of one", one().most(3), 1);
        due("of eight", eight().most(3), 7);
        due("all the same", Check.with("n", "n", "n 1", "n; from 0 0", "n", "n", "n", "n").most(3), 1);
        due("by WEIGHTS", Check.with("n", "n 2", "n 3", "nw").most(3), 4);
        due("by START", Check.with("n", "n; from 0 1", "n; from 1 0", "n; from 1 1", "n; from 1 0").most(3), 4);
        due("all unlike", Check.with("n", "ne", "e", "se", "s", "sw", "w", "nw").most(3), 8);
        CHECK.by("51 STEPS that all have (bits)");
        due("of one with all", Check.with("n ne e se s sw w nw").most(4), 255);
        due("of eight", eight().most(4), 0);
        due("the first has fewer", Check.with("n", "n e").most(4), 1);
        due("the last has fewer", Check.with("n e", "n").most(4), 1);
        due("whatever WEIGHTS", Check.with("n nw 9 e", "n 2 nw s", "nw n 3 w").most(4), 0x81);
    }

    private static void mostGroups() {
        CHECK.by("51 the greatest GROUP (none is less than any; of several the lowest)");
        due("none has one", Check.with("s", "n", "e").most(2), 0);
        due("the only one that has one", Check.with("s", "n", "n e s w").most(2), 2);
        due("4, 6, 8, 6, 8", Check.with("n e s w", "ne w s", "e w nw se", "ne w s", "e w nw se").most(2), 2);
        due("8 behind none", Check.with("n e sw se", "e w nw se", "s").most(2), 1);
    }

    private static void counts() {
        CHECK.by("52 NONE for others");
        for (int what : new int[] {-1, 3, 4, LOW, HIGH}) {
            due("of none, " + what, empty().count(what), NONE);
            due("of eight, " + what, eight().count(what), NONE);
        }
        CHECK.by("52 bytes of the TAPE, ACTS that can be UNDONE, SETS");
        QuarterWalks q = fed(eight(), " ".repeat(200));
        due("bytes", q.count(0), 200);
        due("acts", q.count(1), 8);
        due("sets", q.count(2), 8);
    }
}
