/** Promises 1 to 4 and texts of SETS: each sentence that names a boundary case, by its words. */
public final class EdgesOfTextsTest {
    private static final Check CHECK = new Check();
    private static final int NONE = -1;
    private static final int LOW = Integer.MIN_VALUE;
    private static final int HIGH = Integer.MAX_VALUE;
    private static final int BLANKS = 0x20202020;

    public static void main(String[] args) {
        newObject();
        feedOrder();
        feedZeros();
        feedTooMuch();
        feedIsNoAct();
        ending();
        endingOfAll();
        stepsOfTexts();
        weightsOfTexts();
        startsOfTexts();
        wordsAndNumbers();
        blanks();
        otherBytes();
        earlyEnds();
        longTexts();
        CHECK.close();
    }

    private static void due(String call, long got, long want) {
        CHECK.due(call, got, want);
    }

    private static void due(String call, boolean got, boolean want) {
        CHECK.due(call, got, want);
    }

    /** The FAULT that is due of each text. */
    private static void faults(int want, String... texts) {
        for (String text : texts) {
            due("fault of '" + text + "'", Check.fault(new QuarterWalks(), text), want);
        }
    }

    /** How a text that has no FAULT is WRITTEN. */
    private static void told(String text, String want) {
        QuarterWalks q = new QuarterWalks();
        due("fault of '" + text + "'", Check.fault(q, text), NONE);
        due("tell '" + text + "'", q.tell(), 0);
        due("'" + text + "' written", Check.written(q, 0).equals(want), true);
    }

    private static void newObject() {
        QuarterWalks q = new QuarterWalks();
        CHECK.by("1 An empty BOOK");
        for (int what = 0; what < 3; what++) {
            due("count " + what, q.count(what), 0);
        }
        for (int what = 0; what < 4; what++) {
            due("status " + what, q.status(what), 0);
        }
        due("fault of an empty tape", q.fault(), 0);
        due("undo", q.undo(), NONE);
        due("back", q.back(), NONE);
        due("unlike sets", q.most(3), 0);
        due("no set 0", Check.ruleThrows(q, 0, 0), 1);
        QuarterWalks other = Check.with("n");
        due("its own book", q.count(2), 0);
        due("the other's", other.count(2), 1);
    }

    private static void feedOrder() {
        CHECK.by("2 Twenty bytes more come (of each number the highest first)");
        QuarterWalks q = new QuarterWalks();
        // "n 2 ne 3 e 4 se 5 s6" and " sw7w8nw9;from 4 5  "
        due("twenty", q.feed(0x6E203220, 0x6E652033, 0x20652034, 0x20736520, 0x35207336), 20);
        due("twenty more", q.feed(0x20737737, 0x77386E77, 0x393B6672, 0x6F6D2034, 0x20352020), 40);
        due("a set", q.tell(), 0);
        due("as fed", Check.written(q, 0).equals("n 2 ne 3 e 4 se 5 s 6 sw 7 w 8 nw 9; from 4 5"), true);
    }

    private static void feedZeros() {
        CHECK.by("2 bytes of 0 are left out");
        QuarterWalks q = new QuarterWalks();
        due("none but zeros", q.feed(0, 0, 0, 0, 0), 0);
        due("four of twenty", q.feed(0x006E0000, 0x00000020, 0x65000000, 0, 0x00003200), 4);
        due("a set", q.tell(), 0);
        due("of the four", Check.written(q, 0).equals("n e 2"), true);
        due("bytes 1, 128 and 255 are not 0", q.feed(0x01000080, 0, 0, 0, 0xFF000000), 3);
        due("all 255", q.feed(-1, -1, -1, -1, -1), 23);
        due("the highest bit alone", q.feed(LOW, 0, 0, 0, LOW), 25);
    }

    /** A TAPE of so many blanks. */
    private static QuarterWalks blankTape(int bytes) {
        QuarterWalks q = new QuarterWalks();
        for (int i = 0; i < 10 && q.count(0) < bytes; i++) {
            q.feed(BLANKS, BLANKS, BLANKS, BLANKS, BLANKS);
        }
        q.end(bytes);
        return q;
    }

    private static void feedTooMuch() {
        CHECK.by("2 NONE: more than 200 (without these)");
        QuarterWalks q = new QuarterWalks();
        for (int i = 1; i <= 10; i++) {
            due("the " + i + "th twenty", q.feed(BLANKS, BLANKS, BLANKS, BLANKS, BLANKS), 20 * i);
        }
        due("nothing comes to a full one", q.feed(0, 0, 0, 0, 0), 200);
        due("twenty to a full one", q.feed(BLANKS, BLANKS, BLANKS, BLANKS, BLANKS), NONE);
        due("still full", q.count(0), 200);
        for (int place = 0; place < 20; place++) {
            int[] five = new int[5];
            five[place / 4] = 0x6E << 24 - 8 * (place % 4);
            due("the 201st as byte " + place, q.feed(five[0], five[1], five[2], five[3], five[4]), NONE);
            QuarterWalks room = blankTape(199);
            due("the 200th as byte " + place, room.feed(five[0], five[1], five[2], five[3], five[4]), 200);
            due("it is there", room.fault(), NONE);
        }
        due("180 and 20", blankTape(180).feed(BLANKS, BLANKS, BLANKS, BLANKS, BLANKS), 200);
        QuarterWalks short181 = blankTape(181);
        due("181 and 20", short181.feed(BLANKS, BLANKS, BLANKS, BLANKS, 0x2020206E), NONE);
        due("none of the 20 came", short181.count(0), 181);
        due("181 and 19", short181.feed(BLANKS, BLANKS, BLANKS, BLANKS, 0x2000206E), 200);
        QuarterWalks one = blankTape(199);
        due("the first of two has room, yet", one.feed(0x6E000000, 0, 0, 0, 0x65), NONE);
        due("it did not come", one.count(0), 199);
        due("another has its place", one.feed(0, 0, 0, 0, 0x73), 200);
        due("a set", one.tell(), 0);
        due("of that one", one.rule(0, 14), 1 << 4);
        due("room again behind tell", one.feed(BLANKS, BLANKS, BLANKS, BLANKS, BLANKS), 20);
    }

    private static void feedIsNoAct() {
        CHECK.by("STATUS: calls that are ACTS");
        QuarterWalks q = blankTape(200);
        Look.only(CHECK, "feed refused", NONE, q, o -> o.feed(1, 1, 1, 1, 1));
        Look.only(CHECK, "end refused", 0, q, o -> o.end(201) ? 1 : 0);
        Look.only(CHECK, "fault", 200, q, o -> o.fault());
    }

    private static void ending() {
        CHECK.by("3 False: n");
        QuarterWalks q = new QuarterWalks();
        due("an empty one: 0", q.end(0), true);
        due("an empty one: 1", q.end(1), false);
        due("an empty one: -1", q.end(-1), false);
        QuarterWalks full = blankTape(200);
        for (int n : new int[] {-1, 201, LOW, HIGH}) {
            due("a full one: " + n, full.end(n), false);
            due("it stays full", full.count(0), 200);
        }
        due("a full one: 200", full.end(200), true);
        due("all of it", full.count(0), 200);
        due("a full one: 199", full.end(199), true);
        due("one less", full.count(0), 199);
        due("200 is too many then", full.end(200), false);
        due("199 are left", full.count(0), 199);
    }

    private static void endingOfAll() {
        CHECK.by("3 The TAPE has its first n bytes alone");
        QuarterWalks q = new QuarterWalks();
        Check.feed(q, "n 9 e");
        due("one", q.end(1), true);
        due("the others don't come back", q.end(3), false);
        due("others come behind it", q.feed(0x20732034, 0, 0, 0, 0), 5);
        due("a set", q.tell(), 0);
        due("of the first and the new ones", Check.written(q, 0).equals("n s 4"), true);
        Check.feed(q, "n");
        due("none", q.end(0), true);
        due("an empty tape", q.count(0), 0);
        due("no first part is left", q.fault(), 0);
    }

    private static void stepsOfTexts() {
        CHECK.by("Terms: STEPS (unlike, one at least)");
        for (String name : Plain.NAMES) {
            told(name, name);
            faults(name.length() + 1, name + " " + name);
            faults(name.length() + 3, name + " 2 " + name);
        }
        told("n ne e se s sw w nw", "n ne e se s sw w nw");
        told("nw w sw s se e ne n", "n ne e se s sw w nw");
        faults(20, "n ne e se s sw w nw n");
        faults(0, "", ";", "; from 0 0", "from 1 1", "1", "9 n", ";n");
        faults(2, "n n", "n;n", "n from 0 0", "n x");
        faults(5, "n e 2e 3", "n e 2n");
    }

    private static void weightsOfTexts() {
        CHECK.by("Terms: a WEIGHT (1 to 9; 1 without)");
        told("n1", "n");
        told("n", "n");
        told("n 9", "n 9");
        told("n9ne9e9se9s9sw9w9nw9", "n 9 ne 9 e 9 se 9 s 9 sw 9 w 9 nw 9");
        told("s 3sw w2", "s 3 sw w 2");
        CHECK.by("FAULT: a WEIGHT 0, a NUMBER of more digits");
        faults(1, "n0", "n10", "n00", "n01", "n99", "n123456789012345678901234567890", "n0;", "n0 e");
        faults(2, "n 0", "n 10", "n 09", "ne0");
        CHECK.by("FAULT: a WEIGHT behind a WEIGHT can't stand there");
        faults(3, "n1 1", "n9 9", "n1 0", "n1 12");
        faults(4, "n 1 1", "n 1 1 e");
    }

    private static void startsOfTexts() {
        CHECK.by("Terms: ; from X Y (0 to 9 each; 0 0 without)");
        told("n;from 0 0", "n");
        told("n;from 9 9", "n; from 9 9");
        told("n;from 0 9", "n; from 0 9");
        told("n 2;from9 0", "n 2; from 9 0");
        faults(7, "n;from 10 0", "n;from 00 0", "n;from 99 9", "n;from -1 0", "n;from n");
        faults(9, "n;from 0 10", "n;from 0 00", "n;from 9 -1", "n;from 0 n", "n;from 1 ;");
        faults(6, "n;from12 3", "n;from;");
        CHECK.by("FAULT: nothing can stand behind START");
        faults(11, "n;from 1 2 3", "n;from 1 2 e", "n;from 1 2 ;", "n;from 1 2 from", "n;from 1 2 0");
        faults(10, "n;from 1 2;", "n;from 1 2e");
        CHECK.by("FAULT: behind ; stands from alone");
        faults(2, "n;;", "n;1", "n;0 0", "n;e", "n;fro 1 2", "n;fromm 1 2", "n;froma 1 2", "n;From 1 2", "n;form 1 2");
        faults(2, "n;f", "n;frox", "n;fxom", "n;xrom");
    }

    private static void wordsAndNumbers() {
        CHECK.by("Terms: Words (small letters) go as long as they can");
        faults(0, "nn", "nne", "nes", "new", "nwn", "ses", "x", "a", "z", "fromn");
        faults(0, "ns", "en", "es", "ws", "wn", "ee");
        faults(2, "n nes", "e fromn");
        told("n1e1", "n e");
        CHECK.by("Terms: so do NUMBERS (1 digit)");
        faults(1, "n12", "n11");
        faults(2, "n 12e", "n 12 e");
        CHECK.by("FAULT: where the first part begins that can't stand there");
        faults(0, "x x", "N n", "1 1");
        faults(2, "n x y", "n 0 x", "n 12 x");
        faults(4, "n e x 0");
    }

    private static void blanks() {
        CHECK.by("Terms: blanks (32) may stand ahead of and behind all");
        told("   n   2   e   ;   from   3   4   ", "n 2 e; from 3 4");
        told("n2e;from3 4", "n 2 e; from 3 4");
        faults(3, "   x", "   0");
        faults(1, "n\t", "n\n", "n\te", "n\u00a0", "n\u001f", "n!");
    }

    private static void otherBytes() {
        CHECK.by("FAULT: another byte");
        for (int sign = 1; sign < 256; sign++) {
            boolean isLetter = sign >= 'a' && sign <= 'z';
            boolean isDigit = sign >= '1' && sign <= '9';
            if (!isLetter && !isDigit && sign != ' ' && sign != ';') {
                faults(1, "n" + (char) sign, "n" + (char) sign + "e");
                faults(0, (char) sign + "n");
                faults(2, "n;" + (char) sign);
            }
        }
    }

    private static void earlyEnds() {
        CHECK.by("FAULT: the length, if the TEXT ends too early");
        for (String text : new String[] {"", " ", "    ", "n;", "n; ", "n2;", "n;from", "n;from ", "n;from 1", "n;from 1 ",
            "n ; from 0  ", "n;from0"}) {
            faults(text.length(), text);
        }
    }

    private static void longTexts() {
        CHECK.by("4 of the TAPE, a full one");
        faults(200, " ".repeat(200), "n;" + " ".repeat(198), "n" + " ".repeat(194) + ";from");
        faults(199, " ".repeat(199) + "x", " ".repeat(199) + "0", "n;" + " ".repeat(197) + "x", " ".repeat(199) + ";");
        faults(0, "n".repeat(200), "1".repeat(200), "from" + " ".repeat(196));
        told(" ".repeat(199) + "n", "n");
        told("n" + " ".repeat(199), "n");
        told("n" + " ".repeat(198) + "9", "n 9");
        told("n;from 9" + " ".repeat(191) + "8", "n; from 9 8");
        faults(1, "n" + "1".repeat(199));
    }
}
