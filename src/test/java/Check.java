/** What all tests share: counting wrong answers, and SETS told as texts. */
final class Check {
    private static final int SHOWN = 40;
    private int wrong;
    private int made;

    void due(String call, long got, long want) {
        made++;
        if (got != want) {
            wrong++;
            if (wrong <= SHOWN) {
                System.out.println(call + " answered " + got + ", due is " + want);
            }
        }
    }

    void due(String call, boolean got, boolean want) {
        due(call, got ? 1L : 0L, want ? 1L : 0L);
    }

    /** Ends the test: exit code 1 if an answer was wrong. */
    void close() {
        System.out.println(made + " answers, " + wrong + " wrong");
        if (wrong != 0) {
            System.exit(1);
        }
    }

    /** The whole text comes to the TAPE, twenty bytes a call; the last answer. */
    static int feed(QuarterWalks q, String text) {
        int answer = q.feed(0, 0, 0, 0, 0);
        for (int i = 0; i < text.length(); i += 20) {
            int[] five = new int[5];
            for (int k = 0; k < 20; k++) {
                int sign = i + k < text.length() ? text.charAt(i + k) : 0;
                five[k / 4] |= sign << 24 - 8 * (k % 4);
            }
            answer = q.feed(five[0], five[1], five[2], five[3], five[4]);
        }
        return answer;
    }

    static int fault(QuarterWalks q, String text) {
        q.end(0);
        feed(q, text);
        return q.fault();
    }

    static int tell(QuarterWalks q, String text) {
        q.end(0);
        feed(q, text);
        return q.tell();
    }

    static QuarterWalks with(String... texts) {
        QuarterWalks q = new QuarterWalks();
        for (String text : texts) {
            if (tell(q, text) < 0) {
                throw new IllegalStateException("no SET: " + text);
            }
        }
        return q;
    }

    static String written(QuarterWalks q, int set) {
        StringBuilder text = new StringBuilder();
        for (int k = 0; k < q.written(set, QuarterWalks.NONE); k++) {
            text.append((char) q.written(set, k));
        }
        return text.toString();
    }

    /** 1 if it throws as the document says, 0 if it answers. */
    static int ruleThrows(QuarterWalks q, int set, int what) {
        try {
            q.rule(set, what);
            return 0;
        } catch (java.util.NoSuchElementException e) {
            return 1;
        }
    }
}
