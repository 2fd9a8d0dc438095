import java.util.Arrays;
import java.util.function.Supplier;
import java.util.function.ToIntFunction;

/**
 * All that an object tells of its BOOK, its TAPE and its ACTS. A new object is made for each
 * answer, so that none is asked for more than the 512 calls the document allows.
 */
final class Look {
    private static final int NONE = -1;
    private final int[] state;
    private final int[] refusals = new int[4];

    Look(QuarterWalks q) {
        int sets = q.count(2);
        state = new int[4 + 10 * sets];
        state[0] = sets;
        state[1] = q.count(0);
        state[2] = q.fault();
        state[3] = q.count(1);
        for (int set = 0; set < sets; set++) {
            for (int k = 0; k < 8; k++) {
                state[4 + 10 * set + k] = q.rule(set, k);
            }
            state[12 + 10 * set] = q.rule(set, 10);
            state[13 + 10 * set] = q.rule(set, 11);
        }
        for (int why = 0; why < 4; why++) {
            refusals[why] = q.status(why);
        }
    }

    boolean isAs(Look other) {
        return Arrays.equals(state, other.state);
    }

    /** Refused for the one reason why: STATUS tells it, and all else is as it was, for undo and back too. */
    static void refused(Check check, String call, int why, Supplier<QuarterWalks> maker, ToIntFunction<QuarterWalks> act) {
        QuarterWalks q = maker.get();
        QuarterWalks untried = maker.get();
        check.due(call + ", ahead of it image", q.image(), untried.image());
        Look ahead = new Look(q);
        check.due(call, act.applyAsInt(q), NONE);
        Look behind = new Look(q);
        check.due(call + " leaves all as it was", behind.isAs(ahead), true);
        for (int k = 0; k < 4; k++) {
            check.due(call + " status " + k, behind.refusals[k], ahead.refusals[k] + (k == why ? 1 : 0));
        }
        check.due(call + ", then undo", q.undo(), untried.undo());
        check.due(call + ", then undo, all", new Look(q).isAs(new Look(untried)), true);
        check.due(call + ", then back", q.back(), untried.back());
        check.due(call + ", then back, all", new Look(q).isAs(new Look(untried)), true);
    }

    /** It answers so, and nothing at all has changed. */
    static void only(Check check, String call, int want, QuarterWalks q, ToIntFunction<QuarterWalks> ask) {
        Look ahead = new Look(q);
        check.due(call, ask.applyAsInt(q), want);
        Look behind = new Look(q);
        check.due(call + " changes nothing", behind.isAs(ahead), true);
        check.due(call + " is not counted", Arrays.equals(behind.refusals, ahead.refusals), true);
    }
}
