import java.util.function.ToIntBiFunction;

/** What all tests share: counting wrong answers, and SETS told as texts. */
final class Check {
    private static final int SHOWN = 40;
    private int wrong;
    private int made;
    private String sentence = "";

    /** The words of the document by which the answers from here on are due. */
    void by(String words) {
        sentence = words + ": ";
    }

    void due(String call, long got, long want) {
        made++;
        if (got != want) {
            wrong++;
            if (wrong <= SHOWN) {
                System.out.println(sentence + call + " answered " + got + ", due is " + want);
            }
        }
    }

    void due(String call, boolean got, boolean want) {
        due(call, got ? 1L : 0L, want ? 1L : 0L);
    }

    /** No such SET: of an empty BOOK, and of one of eight, the last of which there is. */
    void sets(int without, int there, String text, ToIntBiFunction<QuarterWalks, Integer> ask) {
        for (int set : new int[] {-1, 0, 7, Integer.MIN_VALUE, Integer.MAX_VALUE}) {
            due("set " + set + " of an empty book", ask.applyAsInt(new QuarterWalks(), set), without);
        }
        QuarterWalks q = with("s", "s", "s", "s", "s", "s", "s", text);
        due("set 7 of eight", ask.applyAsInt(q, 7), there);
        for (int set : new int[] {-1, 8, Integer.MIN_VALUE, Integer.MAX_VALUE}) {
            due("set " + set + " of eight", ask.applyAsInt(q, set), without);
        }
    }

    /** One number of a call of two SETS: beyond its bounds, at both ends and far away, and at them. */
    void beyond(String name, int without, int least, int greatest, ToIntBiFunction<QuarterWalks, Integer> ask) {
        QuarterWalks q = with("n ne e se s sw w nw", "n ne e se s sw w nw");
        for (int wrong : new int[] {least - 1, greatest + 1, Integer.MIN_VALUE, Integer.MAX_VALUE}) {
            due(name + " " + wrong, ask.applyAsInt(q, wrong), without);
        }
        for (int last : new int[] {least, greatest}) {
            due(name + " " + last + " is such a one", ask.applyAsInt(q, last) != without, true);
        }
    }

    /** Ends the test: exit code 1 if an answer was wrong. */
    void close() {
        System.out.println(made + " answers, " + wrong + " wrong");
        if (wrong != 0) {
            System.exit(1);
        }
    }

    /** The whole text comes to the TAPE, twenty bytes a call; the last answer. */
    static int feed(QuarterWalks q, String text) {
        int answer = q.feed(0, 0, 0, 0, 0);
        for (int i = 0; i < text.length(); i += 20) {
            int[] five = new int[5];
            for (int k = 0; k < 20; k++) {
                int sign = i + k < text.length() ? text.charAt(i + k) : 0;
                five[k / 4] |= sign << 24 - 8 * (k % 4);
            }
            answer = q.feed(five[0], five[1], five[2], five[3], five[4]);
        }
        return answer;
    }

    static int fault(QuarterWalks q, String text) {
        q.end(0);
        feed(q, text);
        return q.fault();
    }

    static int tell(QuarterWalks q, String text) {
        q.end(0);
        feed(q, text);
        return q.tell();
    }

    static QuarterWalks with(String... texts) {
        QuarterWalks q = new QuarterWalks();
        for (String text : texts) {
            if (tell(q, text) < 0) {
                throw new IllegalStateException("no SET: " + text);
            }
        }
        return q;
    }

    static String written(QuarterWalks q, int set) {
        StringBuilder text = new StringBuilder();
        for (int k = 0; k < q.written(set, QuarterWalks.NONE); k++) {
            text.append((char) q.written(set, k));
        }
        return text.toString();
    }

    /** 1 if it throws as the document says, 0 if it answers. */
    static int ruleThrows(QuarterWalks q, int set, int what) {
        try {
            q.rule(set, what);
            return 0;
        } catch (java.util.NoSuchElementException e) {
            return 1;
        }
    }
}
