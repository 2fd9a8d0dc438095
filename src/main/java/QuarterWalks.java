import java.util.Arrays;
import java.util.NoSuchElementException;

/**
 * Walks in a quarter by few steps: the numbered promises of DOC.md.
 *
 * SETS of STEPS never change once made: an ACT puts another one into the BOOK. So what
 * has been reckoned of a SET can stay with it, and an UNDO only has to find the old ones.
 */
public final class QuarterWalks {
    public static final int NONE = -1;
    public static final int HIDDEN = -1000000;

    private static final int PRIME = 1000003;
    private static final int STEPS = 8;
    private static final int LONGEST = 60;
    private static final int FAR = 70;
    private static final int KINDS = 5;
    private static final int TERMS = LONGEST + 1;
    private static final int NO_SUCH = -2;
    private static final int[] DX = {0, 1, 1, 1, 0, -1, -1, -1};
    private static final int[] DY = {1, 1, 0, -1, -1, -1, 0, 1};
    private static final int[] MIRRORED = {2, 1, 0, 7, 6, 5, 4, 3};
    private static final int[] OPPOSITE = {4, 5, 6, 7, 0, 1, 2, 3};
    private static final int[] X_LESS = {0, 7, 6, 5, 4, 3, 2, 1};
    private static final int[] Y_LESS = {4, 3, 2, 1, 0, 7, 6, 5};
    /** Two signs a STEP, so that no array of texts is needed. */
    private static final String NAMES = "n nee ses sww nw";

    private static final int QUARTER = 0;
    private static final int UPPER_HALF = 1;
    private static final int PLANE = 2;
    private static final int RIGHT_HALF = 3;

    private static final int WRONG_SET = 0;
    private static final int OUT_OF_BOUNDS = 1;
    private static final int FULL = 2;
    private static final int SO_ALREADY = 3;

    private final Tape tape;
    private final Book book;
    private final Grid grid;
    private final Ways ways;
    private final Turns turns;
    private final Matrix matrix;
    private final Guess guess;
    private final int[] refused;
    private final long[] scratch;
    private final StringBuilder script;

    public QuarterWalks() {
        tape = new Tape();
        book = new Book();
        grid = new Grid();
        ways = new Ways();
        turns = new Turns();
        matrix = new Matrix();
        guess = new Guess(matrix);
        refused = new int[4];
        scratch = new long[FAR * FAR];
        script = new StringBuilder();
    }

    public int feed(int a, int b, int c, int d, int e) {
        int more = Tape.filled(a) + Tape.filled(b) + Tape.filled(c) + Tape.filled(d) + Tape.filled(e);
        if (tape.length + more > Tape.MOST) {
            return NONE;
        }
        tape.append(a);
        tape.append(b);
        tape.append(c);
        tape.append(d);
        tape.append(e);
        return tape.length;
    }

    public boolean end(int n) {
        if (!within(n, 0, tape.length)) {
            return false;
        }
        tape.length = n;
        return true;
    }

    public int fault() {
        return tape.read();
    }

    public int tell() {
        if (tape.read() != NONE) {
            return refuse(WRONG_SET);
        }
        if (book.isFull()) {
            return refuse(FULL);
        }
        tape.length = 0;
        return book.add(tape.told());
    }

    public int drop(int set) {
        if (book.find(set) == null) {
            return refuse(WRONG_SET);
        }
        return book.remove(set);
    }

    public int mirror(int set) {
        StepSet s = book.find(set);
        return s == null ? refuse(WRONG_SET) : addMoved(s, MIRRORED, s.startY, s.startX);
    }

    public int turn(int set) {
        StepSet s = book.find(set);
        return s == null ? refuse(WRONG_SET) : addMoved(s, OPPOSITE, s.startX, s.startY);
    }

    public int join(int set, int other) {
        StepSet s = book.find(set);
        StepSet o = book.find(other);
        if (s == null || o == null) {
            return refuse(WRONG_SET);
        }
        int[] weights = new int[STEPS];
        for (int k = 0; k < STEPS; k++) {
            weights[k] = s.weights[k] + o.weights[k];
        }
        if (!areDigits(weights)) {
            return refuse(OUT_OF_BOUNDS);
        }
        if (book.isFull()) {
            return refuse(FULL);
        }
        return book.add(new StepSet(weights, s.startX, s.startY));
    }

    public int scale(int set, int by) {
        StepSet s = book.find(set);
        if (s == null) {
            return refuse(WRONG_SET);
        }
        if (!within(by, 2, 9)) {
            return refuse(OUT_OF_BOUNDS);
        }
        int[] weights = new int[STEPS];
        for (int k = 0; k < STEPS; k++) {
            weights[k] = s.weights[k] * by;
        }
        if (!areDigits(weights)) {
            return refuse(OUT_OF_BOUNDS);
        }
        StepSet scaled = new StepSet(weights, s.startX, s.startY);
        book.replace(set, scaled);
        return scaled.weightTotal();
    }

    public int weigh(int set, int step, int weight) {
        StepSet s = book.find(set);
        if (s == null) {
            return refuse(WRONG_SET);
        }
        if (!within(step, 0, STEPS - 1) || !within(weight, 0, 9)) {
            return refuse(OUT_OF_BOUNDS);
        }
        int was = s.weights[step];
        if (weight == 0 && was == s.weightTotal()) {
            return refuse(OUT_OF_BOUNDS);
        }
        if (weight == was) {
            return refuse(SO_ALREADY);
        }
        int[] weights = Arrays.copyOf(s.weights, STEPS);
        weights[step] = weight;
        book.replace(set, new StepSet(weights, s.startX, s.startY));
        return was;
    }

    public int start(int set, int x, int y) {
        StepSet s = book.find(set);
        if (s == null) {
            return refuse(WRONG_SET);
        }
        if (!within(x, 0, 9) || !within(y, 0, 9)) {
            return refuse(OUT_OF_BOUNDS);
        }
        if (x == s.startX && y == s.startY) {
            return refuse(SO_ALREADY);
        }
        book.replace(set, new StepSet(s.weights, x, y));
        return 10 * s.startX + s.startY;
    }

    public int rule(int set, int what) throws NoSuchElementException {
        StepSet s = book.find(set);
        if (s == null || !within(what, 0, 14)) {
            throw new NoSuchElementException();
        }
        if (what < STEPS) {
            return s.weights[what];
        }
        switch (what) {
            case 8:
                return Integer.bitCount(s.bits());
            case 9:
                return s.weightTotal();
            case 10:
                return s.startX;
            case 11:
                return s.startY;
            case 12:
                return s.drift(DX);
            case 13:
                return s.drift(DY);
            default:
                return s.bits();
        }
    }

    public int at(int place, int set, int n, int x, int y) {
        StepSet s = book.find(set);
        if (s == null || !within(place, QUARTER, PLANE) || !isLength(n) || !isNear(x, y)) {
            return NONE;
        }
        grid.go(s, Grid.MODULO, place, n);
        return (int) grid.seen(x, y);
    }

    public int series(int set, int kind, int n) {
        StepSet s = book.find(set);
        if (s == null || !isKind(kind) || !isLength(n)) {
            return NONE;
        }
        return term(s, kind, n);
    }

    public long exact(int set, int n, int x, int y) {
        StepSet s = book.find(set);
        if (s == null || !isLength(n) || !isNear(x, y) || !fitsLong(s.weightTotal(), n)) {
            return NONE;
        }
        grid.go(s, Grid.EXACT, QUARTER, n);
        return grid.seen(x, y);
    }

    public int bridge(int set, int n, int x, int y) {
        StepSet s = book.find(set);
        if (s == null || !isLength(n) || !isNear(x, y)) {
            return NONE;
        }
        if (s.startX > x || s.startY > y) {
            return 0;
        }
        grid.open(s, Grid.MODULO, QUARTER);
        grid.close(x, y);
        grid.advance(n);
        return (int) grid.seen(x, y);
    }

    public int reflected(int set, int n, int x, int y) {
        StepSet s = book.find(set);
        if (s == null || !isLength(n) || !within(x, 0, LONGEST) || !within(y, 0, LONGEST)) {
            return HIDDEN;
        }
        if (!s.isSameBy(X_LESS) || !s.isSameBy(Y_LESS)) {
            return HIDDEN;
        }
        grid.go(s, Grid.MODULO, PLANE, n);
        long more = grid.seen(x, y) + grid.seen(-x - 2, -y - 2);
        long less = grid.seen(-x - 2, y) + grid.seen(x, -y - 2);
        return residue(more - less);
    }

    public int rank(int set, int n) {
        StepSet s = book.find(set);
        if (s == null || !within(n, 0, 12)) {
            return NONE;
        }
        grid.go(s, Grid.MODULO, QUARTER, n);
        matrix.shape(13, 13);
        for (int x = 0; x <= 12; x++) {
            for (int y = 0; y <= 12; y++) {
                matrix.put(x, y, grid.seen(x, y));
            }
        }
        return matrix.pivots();
    }

    public int ratio(int set, int kind, int n) {
        StepSet s = book.find(set);
        if (s == null || !isKind(kind) || !within(n, 1, LONGEST)) {
            return NONE;
        }
        int under = term(s, kind, n - 1);
        return under == 0 ? NONE : times(term(s, kind, n), inverse(under));
    }

    public int hankel(int set, int kind, int k) {
        StepSet s = book.find(set);
        if (s == null || !isKind(kind) || !within(k, 1, 8)) {
            return NONE;
        }
        matrix.shape(k, k);
        for (int row = 0; row < k; row++) {
            for (int column = 0; column < k; column++) {
                matrix.put(row, column, term(s, kind, row + column));
            }
        }
        return matrix.determinant();
    }

    public int convolved(int set, int kind, int other, int by, int n) {
        StepSet s = book.find(set);
        StepSet o = book.find(other);
        if (s == null || o == null || !isKind(kind) || !isKind(by) || !isLength(n)) {
            return NONE;
        }
        long all = 0;
        for (int i = 0; i <= n; i++) {
            all += times(term(s, kind, i), term(o, by, n - i));
        }
        return residue(all);
    }

    public int out(int set, int n) {
        StepSet s = book.find(set);
        if (s == null || !isLength(n)) {
            return NONE;
        }
        grid.go(s, Grid.MODULO, QUARTER, n);
        return grid.leaving(s);
    }

    public int arches(int set, int n) {
        StepSet s = book.find(set);
        if (s == null || !within(n, 1, LONGEST)) {
            return NONE;
        }
        // Every way back is a first way back and then any other one.
        for (int m = 1; m <= n; m++) {
            long later = 0;
            for (int k = 1; k < m; k++) {
                later += times(scratch[k], term(s, 1, m - k));
            }
            scratch[m] = residue(term(s, 1, m) - later);
        }
        return (int) scratch[n];
    }

    public int value(int set, int n, int x, int y) {
        StepSet s = book.find(set);
        if (s == null || !isLength(n) || !within(x, 0, PRIME - 1) || !within(y, 0, PRIME - 1)) {
            return NONE;
        }
        grid.go(s, Grid.MODULO, QUARTER, n);
        return grid.valueAt(x, y);
    }

    public int walk(int set, int n, int x, int y, int k, int i) {
        StepSet s = book.find(set);
        if (s == null || !within(n, 0, Ways.MOST) || !isNear(x, y)) {
            return HIDDEN;
        }
        int all = ways.lead(s, n, x, y);
        if (k == NONE) {
            return all;
        }
        if (!within(k, 0, all - 1) || !within(i, 0, n - 1)) {
            return HIDDEN;
        }
        return ways.follow(s, k, i);
    }

    public int drawn(int set, int n, int x, int y, long seed, int i) {
        StepSet s = book.find(set);
        if (s == null || !within(n, 0, Ways.MOST) || !isNear(x, y) || !within(i, 0, n - 1)) {
            return HIDDEN;
        }
        int all = ways.lead(s, n, x, y);
        if (all <= 0) {
            return HIDDEN;
        }
        long lot = (seed * 6364136223846793005L + 1442695040888963407L) >>> 33;
        return ways.follow(s, (int) (lot % all), i);
    }

    public int peak(int set, int n, int what) {
        StepSet s = book.find(set);
        if (s == null || !within(n, 0, Ways.MOST) || !within(what, 0, 2)) {
            return HIDDEN;
        }
        grid.go(s, Grid.UNWEIGHTED, QUARTER, n);
        return grid.highest(what);
    }

    public int points(int set, int n) {
        StepSet s = book.find(set);
        if (s == null || !isLength(n)) {
            return NONE;
        }
        grid.go(s, Grid.WHETHER, QUARTER, n);
        return grid.filledCells();
    }

    public int fewest(int set, int x, int y) {
        StepSet s = book.find(set);
        if (s == null || !isNear(x, y)) {
            return NONE;
        }
        grid.open(s, Grid.WHETHER, QUARTER);
        for (int n = 0; n <= LONGEST; n++) {
            if (n > 0) {
                grid.advance(1);
            }
            if (grid.seen(x, y) != 0) {
                return n;
            }
        }
        return NONE;
    }

    public int period(int set) {
        StepSet s = book.find(set);
        if (s == null) {
            return NONE;
        }
        grid.open(s, Grid.WHETHER, QUARTER);
        int common = 0;
        for (int n = 1; n <= LONGEST; n++) {
            grid.advance(1);
            if (grid.seen(s.startX, s.startY) != 0) {
                common = commonDivisor(common, n);
            }
        }
        return common;
    }

    public int meet(int set, int other, int n) {
        StepSet s = book.find(set);
        StepSet o = book.find(other);
        if (s == null || o == null || !isLength(n)) {
            return NONE;
        }
        grid.go(s, Grid.MODULO, QUARTER, n);
        grid.copyQuarter(scratch);
        grid.go(o, Grid.MODULO, QUARTER, n);
        return grid.matched(scratch);
    }

    public int kernel(int set, int x, int y) {
        StepSet s = book.find(set);
        if (s == null || !isUnit(x) || !isUnit(y)) {
            return NONE;
        }
        return Turns.kernelAt(s, x, y);
    }

    public int turned(int set, int x, int y, int which) {
        StepSet s = book.find(set);
        if (s == null || !isUnit(x) || !isUnit(y) || !within(which, 0, 1)) {
            return NONE;
        }
        return which == 0 ? Turns.newX(s, x, y) : Turns.newY(s, x, y);
    }

    public int orbit(int set, int x, int y, int k, int what) {
        StepSet s = book.find(set);
        // What is told of the k-th pair alone: how many pairs has no what that could be wrong.
        boolean isFitting = k == NONE || within(what, 0, 1);
        if (s == null || !isUnit(x) || !isUnit(y) || !isFitting) {
            return NO_SUCH;
        }
        int pairs = turns.follow(s, x, y);
        if (pairs == NONE || k == NONE) {
            return pairs;
        }
        if (!within(k, 0, pairs - 1)) {
            return NO_SUCH;
        }
        return what == 0 ? turns.xs[k] : turns.ys[k];
    }

    public int group(int set) {
        StepSet s = book.find(set);
        return s == null ? NO_SUCH : turns.greatest(s);
    }

    public int sum(int set, int x, int y) {
        StepSet s = book.find(set);
        if (s == null || !isUnit(x) || !isUnit(y)) {
            return NO_SUCH;
        }
        int pairs = turns.follow(s, x, y);
        return pairs == NONE ? NONE : turns.alternating(pairs);
    }

    public int noUse(int set) {
        StepSet s = book.find(set);
        if (s == null) {
            return NONE;
        }
        int idle = s.bits();
        grid.open(s, Grid.WHETHER, QUARTER);
        for (int n = 1; n <= 24 && idle != 0; n++) {
            idle &= ~grid.staying();
            grid.advance(1);
        }
        return idle;
    }

    public int enough(int set) {
        StepSet s = book.find(set);
        if (s == null) {
            return NONE;
        }
        return (isHalfEnough(s, UPPER_HALF) ? 1 : 0) + (isHalfEnough(s, RIGHT_HALF) ? 2 : 0);
    }

    public int alike(int set) {
        StepSet s = book.find(set);
        if (s == null) {
            return NONE;
        }
        for (int i = 0; i < set; i++) {
            StepSet o = book.find(i);
            if (o != null && areAlike(terms(o), terms(s))) {
                return i;
            }
        }
        return set;
    }

    public int recurrence(int set, int kind, int r, int d, int i, int j) {
        boolean isReady = readies(set, kind, Guess.RECURRENCE, r, d);
        return isReady && within(i, 0, r) && within(j, 0, d) ? guess.coefficient(r, d, i, j) : HIDDEN;
    }

    public int fails(int set, int kind, int r, int d) {
        return readies(set, kind, Guess.RECURRENCE, r, d) ? guess.failing(r, d) : HIDDEN;
    }

    public int equation(int set, int kind, int r, int d, int i, int j) {
        boolean isReady = readies(set, kind, Guess.EQUATION, r, d);
        return isReady && within(i, 0, r) && within(j, 0, d) ? guess.coefficient(r, d, i, j) : HIDDEN;
    }

    public int breaks(int set, int kind, int r, int d) {
        return readies(set, kind, Guess.EQUATION, r, d) ? guess.failing(r, d) : HIDDEN;
    }

    public int least(int set, int kind, int which) {
        StepSet s = book.find(set);
        if (s == null || !isKind(kind) || !within(which, Guess.RECURRENCE, Guess.EQUATION)) {
            return HIDDEN;
        }
        guess.load(terms(s), kind, which);
        return guess.smallest();
    }

    public int written(int set, int k) {
        StepSet s = book.find(set);
        if (s == null) {
            return NONE;
        }
        script.setLength(0);
        s.writeTo(script);
        if (k == NONE) {
            return script.length();
        }
        if (!within(k, 0, script.length() - 1)) {
            return NONE;
        }
        return script.charAt(k);
    }

    public int undo() {
        return book.takeBack();
    }

    public int image() {
        return book.keep();
    }

    public int back() {
        return book.restore();
    }

    public int status(int what) {
        return within(what, 0, refused.length - 1) ? refused[what] : NONE;
    }

    public int most(int what) {
        if (!within(what, 0, 4)) {
            return NONE;
        }
        if (what == 3) {
            return unlikeSets();
        }
        if (book.size() == 0) {
            return NONE;
        }
        return what == 4 ? commonSteps() : greatestBy(what);
    }

    public int count(int what) {
        switch (what) {
            case 0:
                return tape.length;
            case 1:
                return book.past;
            case 2:
                return book.size();
            default:
                return NONE;
        }
    }

    private int refuse(int why) {
        refused[why]++;
        return NONE;
    }

    /** A SET each STEP of which has become another one comes to the BOOK. */
    private int addMoved(StepSet s, int[] becomes, int startX, int startY) {
        if (book.isFull()) {
            return refuse(FULL);
        }
        int[] weights = new int[STEPS];
        for (int k = 0; k < STEPS; k++) {
            weights[becomes[k]] = s.weights[k];
        }
        return book.add(new StepSet(weights, startX, startY));
    }

    private int[] terms(StepSet s) {
        if (s.terms == null) {
            s.terms = grid.tabulated(s);
        }
        return s.terms;
    }

    private int term(StepSet s, int kind, int n) {
        return terms(s)[kind * TERMS + n];
    }

    private boolean isHalfEnough(StepSet s, int half) {
        // Reckoned first: it would use the grid that is walked on here.
        int[] inQuarter = terms(s);
        grid.open(s, Grid.MODULO, half);
        for (int n = 0; n <= 12; n++) {
            if (grid.total() != inQuarter[n]) {
                return false;
            }
            grid.advance(1);
        }
        return true;
    }

    /** SERIES anywhere stand first among all terms. */
    private static boolean areAlike(int[] terms, int[] others) {
        for (int n = 0; n <= 20; n++) {
            if (terms[n] != others[n]) {
                return false;
            }
        }
        return true;
    }

    /** Whether there are such ones; guess then has their SERIES. */
    private boolean readies(int set, int kind, int which, int r, int d) {
        StepSet s = book.find(set);
        if (s == null || !isKind(kind) || !Guess.isShape(which, r, d)) {
            return false;
        }
        guess.load(terms(s), kind, which);
        return true;
    }

    private int unlikeSets() {
        int unlike = 0;
        for (int i = 0; i < book.size(); i++) {
            if (!isRepeated(i)) {
                unlike++;
            }
        }
        return unlike;
    }

    private boolean isRepeated(int set) {
        StepSet s = book.find(set);
        for (int i = 0; i < set; i++) {
            StepSet o = book.find(i);
            if (s != null && o != null && s.isSameAs(o)) {
                return true;
            }
        }
        return false;
    }

    private int commonSteps() {
        int bits = 255;
        for (int i = 0; i < book.size(); i++) {
            StepSet s = book.find(i);
            if (s != null) {
                bits &= s.bits();
            }
        }
        return bits;
    }

    private int greatestBy(int what) {
        int best = NONE;
        int height = Integer.MIN_VALUE;
        for (int i = 0; i < book.size(); i++) {
            StepSet s = book.find(i);
            if (s == null) {
                continue;
            }
            int own = what == 2 ? turns.greatest(s) : what == 1 ? s.weightTotal() : Integer.bitCount(s.bits());
            if (own > height) {
                height = own;
                best = i;
            }
        }
        return best;
    }

    private static boolean within(int number, int least, int greatest) {
        return number >= least && number <= greatest;
    }

    private static boolean isLength(int n) {
        return within(n, 0, LONGEST);
    }

    private static boolean isNear(int x, int y) {
        return within(x, -FAR, FAR) && within(y, -FAR, FAR);
    }

    private static boolean isKind(int kind) {
        return within(kind, 0, KINDS - 1);
    }

    private static boolean isUnit(int number) {
        return within(number, 1, PRIME - 1);
    }

    private static boolean areDigits(int[] weights) {
        for (int weight : weights) {
            if (!within(weight, 0, 9)) {
                return false;
            }
        }
        return true;
    }

    private static boolean fitsLong(int base, int n) {
        long power = 1;
        for (int i = 0; i < n && base > 1; i++) {
            if (power > Long.MAX_VALUE / base) {
                return false;
            }
            power *= base;
        }
        return true;
    }

    private static int commonDivisor(int a, int b) {
        int common = a;
        int rest = b;
        for (int i = 0; i < 100 && rest != 0; i++) {
            int next = common % rest;
            common = rest;
            rest = next;
        }
        return common;
    }

    private static int residue(long number) {
        long rest = number % PRIME;
        return (int) (rest < 0 ? rest + PRIME : rest);
    }

    private static int times(long a, long b) {
        return (int) (a * b % PRIME);
    }

    /** By Fermat: the power less 2 than the prime; 0 for 0. */
    private static int inverse(int number) {
        long power = 1;
        long square = number;
        for (int left = PRIME - 2; left > 0; left >>= 1) {
            if ((left & 1) != 0) {
                power = power * square % PRIME;
            }
            square = square * square % PRIME;
        }
        return (int) power;
    }

    /** A SET of STEPS; only what has been reckoned of it is ever added. */
    private static final class StepSet {
        final int[] weights;
        final int startX;
        final int startY;
        /** SERIES of all kinds, one behind the other; null until asked for. */
        int[] terms;

        StepSet(int[] weights, int startX, int startY) {
            this.weights = Arrays.copyOf(weights, STEPS);
            this.startX = startX;
            this.startY = startY;
        }

        int weightTotal() {
            int all = 0;
            for (int weight : weights) {
                all += weight;
            }
            return all;
        }

        int bits() {
            int bits = 0;
            for (int k = 0; k < STEPS; k++) {
                if (weights[k] != 0) {
                    bits |= 1 << k;
                }
            }
            return bits;
        }

        int drift(int[] sides) {
            int all = 0;
            for (int k = 0; k < STEPS && k < sides.length; k++) {
                all += weights[k] * sides[k];
            }
            return all;
        }

        boolean isSameBy(int[] others) {
            for (int k = 0; k < STEPS; k++) {
                if (weights[k] != weights[others[k]]) {
                    return false;
                }
            }
            return true;
        }

        boolean isSameAs(StepSet other) {
            for (int k = 0; k < STEPS; k++) {
                if (weights[k] != other.weights[k]) {
                    return false;
                }
            }
            return startX == other.startX && startY == other.startY;
        }

        void writeTo(StringBuilder script) {
            for (int k = 0; k < STEPS; k++) {
                if (weights[k] != 0) {
                    if (script.length() > 0) {
                        script.append(' ');
                    }
                    writeStep(script, k);
                }
            }
            if (startX != 0 || startY != 0) {
                script.append("; from ");
                script.append(startX);
                script.append(' ');
                script.append(startY);
            }
        }

        private void writeStep(StringBuilder script, int k) {
            script.append(NAMES.charAt(2 * k));
            if (NAMES.charAt(2 * k + 1) != ' ') {
                script.append(NAMES.charAt(2 * k + 1));
            }
            if (weights[k] != 1) {
                script.append(' ');
                script.append(weights[k]);
            }
        }
    }

    /** The TAPE and how it is read as a SET. */
    private static final class Tape {
        static final int MOST = 200;
        /** What the reader has behind it, and so what may come next. */
        private static final int NOTHING = 0;
        private static final int STEP = 1;
        private static final int WEIGHT = 2;
        private static final int SEMICOLON = 3;
        private static final int FROM = 4;
        private static final int X = 5;
        private static final int Y = 6;

        int length;
        private final int[] bytes;
        private final int[] weights;
        private int startX;
        private int startY;
        private int behind;
        private int lastStep;

        Tape() {
            bytes = new int[MOST];
            weights = new int[STEPS];
        }

        static int filled(int four) {
            int filled = 0;
            for (int shift = 24; shift >= 0; shift -= 8) {
                if ((four >>> shift & 255) != 0) {
                    filled++;
                }
            }
            return filled;
        }

        void append(int four) {
            for (int shift = 24; shift >= 0; shift -= 8) {
                int next = four >>> shift & 255;
                if (next != 0 && length < MOST) {
                    bytes[length] = next;
                    length++;
                }
            }
        }

        StepSet told() {
            return new StepSet(weights, startX, startY);
        }

        /** The FAULT, or NONE; then told() is the SET. */
        int read() {
            Arrays.fill(weights, 0);
            startX = 0;
            startY = 0;
            behind = NOTHING;
            lastStep = 0;
            int to = 0;
            for (int from = 0; from < length; from = to) {
                to = Math.max(from + 1, partEnd(from));
                if (bytes[from] != ' ' && !takes(from, to)) {
                    return from;
                }
            }
            return behind == STEP || behind == WEIGHT || behind == Y ? NONE : length;
        }

        private int partEnd(int from) {
            int to = from + 1;
            if (isLetter(from)) {
                while (to < length && isLetter(to)) {
                    to++;
                }
            } else if (isDigit(from)) {
                while (to < length && isDigit(to)) {
                    to++;
                }
            }
            return to;
        }

        private boolean isLetter(int place) {
            return within(bytes[place], 'a', 'z');
        }

        private boolean isDigit(int place) {
            return within(bytes[place], '0', '9');
        }

        private boolean takes(int from, int to) {
            if (isLetter(from)) {
                return behind == SEMICOLON ? takesFrom(from, to) : takesStep(from, to);
            }
            if (isDigit(from)) {
                return to == from + 1 && takesNumber(bytes[from] - '0');
            }
            if (bytes[from] != ';' || behind != STEP && behind != WEIGHT) {
                return false;
            }
            behind = SEMICOLON;
            return true;
        }

        private boolean takesFrom(int from, int to) {
            if (to - from != 4 || bytes[from] != 'f' || bytes[from + 1] != 'r'
                    || bytes[from + 2] != 'o' || bytes[from + 3] != 'm') {
                return false;
            }
            behind = FROM;
            return true;
        }

        private boolean takesStep(int from, int to) {
            int step = stepNamed(from, to);
            if (behind > WEIGHT || step == NONE || weights[step] != 0) {
                return false;
            }
            weights[step] = 1;
            lastStep = step;
            behind = STEP;
            return true;
        }

        private int stepNamed(int from, int to) {
            int second = to - from == 2 ? bytes[from + 1] : ' ';
            for (int k = 0; k < STEPS && to - from <= 2; k++) {
                if (bytes[from] == NAMES.charAt(2 * k) && second == NAMES.charAt(2 * k + 1)) {
                    return k;
                }
            }
            return NONE;
        }

        private boolean takesNumber(int digit) {
            if (behind == STEP && digit != 0) {
                weights[lastStep] = digit;
                behind = WEIGHT;
                return true;
            }
            if (behind == FROM) {
                startX = digit;
                behind = X;
                return true;
            }
            if (behind == X) {
                startY = digit;
                behind = Y;
                return true;
            }
            return false;
        }
    }

    /** SETS as they stand at one time. */
    private static final class Shelf {
        static final int MOST = 8;
        final StepSet[] sets;
        int size;

        Shelf() {
            sets = new StepSet[MOST];
        }

        void copy(Shelf other) {
            for (int i = 0; i < MOST; i++) {
                sets[i] = other.sets[i];
            }
            size = other.size;
        }
    }

    /** The BOOK, what it was ahead of the latest ACTS, and its IMAGE. */
    private static final class Book {
        private static final int UNDOABLE = 12;
        int past;
        private final Shelf now;
        private final Shelf kept;
        private final Shelf[] before;
        private boolean isKept;
        /** Where in the ring the next one of before goes. */
        private int next;

        Book() {
            now = new Shelf();
            kept = new Shelf();
            before = new Shelf[UNDOABLE];
            for (int i = 0; i < UNDOABLE; i++) {
                before[i] = new Shelf();
            }
        }

        int size() {
            return now.size;
        }

        boolean isFull() {
            return now.size >= Shelf.MOST;
        }

        StepSet find(int set) {
            return within(set, 0, now.size - 1) ? now.sets[set] : null;
        }

        int add(StepSet s) {
            if (isFull()) {
                return NONE;
            }
            remember();
            now.sets[now.size] = s;
            now.size++;
            return now.size - 1;
        }

        void replace(int set, StepSet s) {
            if (within(set, 0, now.size - 1)) {
                remember();
                now.sets[set] = s;
            }
        }

        int remove(int set) {
            if (!within(set, 0, now.size - 1)) {
                return NONE;
            }
            remember();
            for (int i = set; i + 1 < now.size; i++) {
                now.sets[i] = now.sets[i + 1];
            }
            now.size--;
            now.sets[now.size] = null;
            return now.size;
        }

        private void remember() {
            before[next].copy(now);
            next = (next + 1) % UNDOABLE;
            past = Math.min(past + 1, UNDOABLE);
        }

        int takeBack() {
            if (past == 0) {
                return NONE;
            }
            next = (next + UNDOABLE - 1) % UNDOABLE;
            now.copy(before[next]);
            past--;
            return past;
        }

        int keep() {
            kept.copy(now);
            isKept = true;
            return now.size;
        }

        int restore() {
            if (!isKept) {
                return NONE;
            }
            now.copy(kept);
            past = 0;
            return now.size;
        }
    }

    /** Points from one corner to the other. */
    private static final class Box {
        int left;
        int bottom;
        int right;
        int top;

        boolean holds(int x, int y) {
            return x >= left && x <= right && y >= bottom && y <= top;
        }
    }

    /**
     * Numbers at points, carried on a STEP at a time. The rows lie round START, with a rim
     * of one that is always 0, so that no STEP looks outside of them.
     */
    private static final class Grid {
        static final int MODULO = 0;
        static final int EXACT = 1;
        static final int UNWEIGHTED = 2;
        static final int WHETHER = 3;
        private static final int MIDDLE = LONGEST + 1;
        private static final int SIDE = 2 * MIDDLE + 1;

        private long[] now;
        private long[] next;
        /** Where walks may go, and where they can be by now. */
        private final Box room;
        private final Box reach;
        private final int[] shifts;
        private final long[] worths;
        private int used;
        private int bits;
        private int mode;
        private int startX;
        private int startY;

        Grid() {
            now = new long[SIDE * SIDE];
            next = new long[SIDE * SIDE];
            room = new Box();
            reach = new Box();
            shifts = new int[STEPS];
            worths = new long[STEPS];
        }

        void go(StepSet s, int how, int place, int n) {
            open(s, how, place);
            advance(n);
        }

        void open(StepSet s, int how, int place) {
            wipe();
            mode = how;
            startX = s.startX;
            startY = s.startY;
            boolean isLeftShut = place == QUARTER || place == RIGHT_HALF;
            boolean isBottomShut = place == QUARTER || place == UPPER_HALF;
            room.left = isLeftShut ? 0 : startX - LONGEST;
            room.bottom = isBottomShut ? 0 : startY - LONGEST;
            room.right = startX + LONGEST;
            room.top = startY + LONGEST;
            reach.left = startX;
            reach.bottom = startY;
            reach.right = startX;
            reach.top = startY;
            takeSteps(s);
            now[cell(startX, startY)] = 1;
        }

        /** No walk goes further than there; START must not. */
        void close(int right, int top) {
            room.right = Math.min(room.right, right);
            room.top = Math.min(room.top, top);
        }

        private void takeSteps(StepSet s) {
            used = 0;
            bits = s.bits();
            for (int k = 0; k < STEPS; k++) {
                if (s.weights[k] != 0) {
                    shifts[used] = DX[k] * SIDE + DY[k];
                    worths[used] = mode == MODULO || mode == EXACT ? s.weights[k] : 1;
                    used++;
                }
            }
        }

        /** Only where walks have been can anything but 0 stand. */
        private void wipe() {
            for (int x = reach.left; x <= reach.right; x++) {
                int to = cell(x, reach.top);
                for (int i = cell(x, reach.bottom); i <= to; i++) {
                    now[i] = 0;
                    next[i] = 0;
                }
            }
        }

        private int cell(int x, int y) {
            return (x - startX + MIDDLE) * SIDE + y - startY + MIDDLE;
        }

        void advance(int times) {
            for (int i = 0; i < times; i++) {
                widen();
                gather();
                long[] old = now;
                now = next;
                next = old;
            }
        }

        private void widen() {
            if ((bits & 0xE0) != 0) {
                reach.left = Math.max(reach.left - 1, room.left);
            }
            if ((bits & 0x0E) != 0) {
                reach.right = Math.min(reach.right + 1, room.right);
            }
            if ((bits & 0x38) != 0) {
                reach.bottom = Math.max(reach.bottom - 1, room.bottom);
            }
            if ((bits & 0x83) != 0) {
                reach.top = Math.min(reach.top + 1, room.top);
            }
        }

        private void gather() {
            for (int x = reach.left; x <= reach.right; x++) {
                int to = cell(x, reach.top);
                for (int i = cell(x, reach.bottom); i <= to; i++) {
                    long all = 0;
                    for (int k = 0; k < used; k++) {
                        all += worths[k] * now[i - shifts[k]];
                    }
                    next[i] = settled(all);
                }
            }
        }

        private long settled(long all) {
            if (mode == MODULO) {
                return all % PRIME;
            }
            return mode == WHETHER ? Math.min(all, 1) : all;
        }

        long seen(int x, int y) {
            return reach.holds(x, y) ? now[cell(x, y)] : 0;
        }

        int total() {
            long all = 0;
            for (int x = reach.left; x <= reach.right; x++) {
                int to = cell(x, reach.top);
                for (int i = cell(x, reach.bottom); i <= to; i++) {
                    all += now[i];
                }
            }
            return residue(all);
        }

        int[] tabulated(StepSet s) {
            int[] terms = new int[KINDS * TERMS];
            open(s, MODULO, QUARTER);
            for (int n = 0; n <= LONGEST; n++) {
                if (n > 0) {
                    advance(1);
                }
                terms[n] = total();
                terms[TERMS + n] = residue(seen(startX, startY));
                terms[2 * TERMS + n] = alongLine(1, 0);
                terms[3 * TERMS + n] = alongLine(0, 1);
                terms[4 * TERMS + n] = alongLine(1, 1);
            }
            return terms;
        }

        /** Of the points that lie that way from (0, 0). */
        private int alongLine(int dx, int dy) {
            long all = 0;
            for (int i = 0; i < FAR; i++) {
                all += seen(i * dx, i * dy);
            }
            return residue(all);
        }

        /** Of STEPS out of the quarter. */
        int leaving(StepSet s) {
            long all = 0;
            for (int x = reach.left; x <= reach.right; x++) {
                for (int y = reach.bottom; y <= reach.top; y++) {
                    if (x == 0 || y == 0) {
                        all += seen(x, y) * weightOut(s, x, y);
                    }
                }
            }
            return residue(all);
        }

        private int weightOut(StepSet s, int x, int y) {
            int all = 0;
            for (int k = 0; k < STEPS; k++) {
                if (x + DX[k] < 0 || y + DY[k] < 0) {
                    all += s.weights[k];
                }
            }
            return all;
        }

        /** By Horner, so that 0 to the 0 is 1. */
        int valueAt(int x, int y) {
            int all = 0;
            for (int px = reach.right; px >= 0; px--) {
                int row = 0;
                for (int py = reach.top; py >= 0; py--) {
                    row = residue((long) row * y + seen(px, py));
                }
                all = residue((long) all * x + row);
            }
            return all;
        }

        /** Of the point with the greatest number: x, y, that number. */
        int highest(int what) {
            long most = 0;
            int bestX = 0;
            int bestY = 0;
            for (int x = reach.left; x <= reach.right; x++) {
                for (int y = reach.bottom; y <= reach.top; y++) {
                    if (seen(x, y) > most) {
                        most = seen(x, y);
                        bestX = x;
                        bestY = y;
                    }
                }
            }
            if (most == 0) {
                return HIDDEN;
            }
            if (what == 0) {
                return bestX;
            }
            return what == 1 ? bestY : (int) most;
        }

        int filledCells() {
            int filled = 0;
            for (int x = reach.left; x <= reach.right; x++) {
                for (int y = reach.bottom; y <= reach.top; y++) {
                    if (seen(x, y) != 0) {
                        filled++;
                    }
                }
            }
            return filled;
        }

        /** STEPS (bits) that can be made next, as far as the quarter goes. */
        int staying() {
            int steps = 0;
            for (int x = reach.left; x <= reach.right; x++) {
                for (int y = reach.bottom; y <= reach.top; y++) {
                    if (seen(x, y) != 0) {
                        steps |= stepsInside(x, y);
                    }
                }
            }
            return steps;
        }

        private static int stepsInside(int x, int y) {
            int steps = 0;
            for (int k = 0; k < STEPS; k++) {
                if (x + DX[k] >= 0 && y + DY[k] >= 0) {
                    steps |= 1 << k;
                }
            }
            return steps;
        }

        void copyQuarter(long[] kept) {
            for (int x = 0; x < FAR; x++) {
                for (int y = 0; y < FAR && x * FAR + y < kept.length; y++) {
                    kept[x * FAR + y] = seen(x, y);
                }
            }
        }

        int matched(long[] kept) {
            long all = 0;
            for (int x = 0; x < FAR; x++) {
                for (int y = 0; y < FAR && x * FAR + y < kept.length; y++) {
                    all += times(kept[x * FAR + y], seen(x, y));
                }
            }
            return residue(all);
        }
    }

    /** WALKS of few STEPS to a point, in their order. */
    private static final class Ways {
        static final int MOST = 10;
        private static final int SIDE = 2 * MOST + 1;
        /** How many ways of so many STEPS lead on from a point (round START) to the goal. */
        private final int[][] onward;
        private int steps;
        private int startX;
        private int startY;

        Ways() {
            onward = new int[MOST + 1][SIDE * SIDE];
        }

        /** How many there are; all that follow() needs is then there. */
        int lead(StepSet s, int n, int goalX, int goalY) {
            steps = Math.max(0, Math.min(n, MOST));
            startX = s.startX;
            startY = s.startY;
            for (int left = 0; left <= steps; left++) {
                int wide = steps - left;
                for (int x = startX - wide; x <= startX + wide; x++) {
                    for (int y = startY - wide; y <= startY + wide; y++) {
                        int here = x == goalX && y == goalY ? 1 : 0;
                        onward[left][cell(x, y)] = left == 0 ? here : waysOn(s, left, x, y);
                    }
                }
            }
            return ways(steps, startX, startY);
        }

        private int waysOn(StepSet s, int left, int x, int y) {
            int all = 0;
            for (int k = 0; k < STEPS; k++) {
                if (s.weights[k] != 0) {
                    all += ways(left - 1, x + DX[k], y + DY[k]);
                }
            }
            return all;
        }

        private int cell(int x, int y) {
            return (x - startX + MOST) * SIDE + y - startY + MOST;
        }

        private int ways(int left, int x, int y) {
            boolean isHeld = within(x - startX, -MOST, MOST) && within(y - startY, -MOST, MOST);
            return isHeld && x >= 0 && y >= 0 && within(left, 0, MOST) ? onward[left][cell(x, y)] : 0;
        }

        /** STEP i of the k-th. */
        int follow(StepSet s, int k, int i) {
            int x = startX;
            int y = startY;
            int rest = k;
            int step = HIDDEN;
            for (int made = 0; made <= i && made < steps; made++) {
                step = HIDDEN;
                for (int next = 0; next < STEPS && step == HIDDEN; next++) {
                    int all = s.weights[next] == 0 ? 0 : ways(steps - made - 1, x + DX[next], y + DY[next]);
                    if (rest < all) {
                        step = next;
                    } else {
                        rest -= all;
                    }
                }
                if (step == HIDDEN) {
                    return HIDDEN;
                }
                x += DX[step];
                y += DY[step];
            }
            return step;
        }
    }

    /** The KERNEL, its TURNS, and the ORBIT followed last. */
    private static final class Turns {
        private static final int MOST = 40;
        final int[] xs;
        final int[] ys;

        Turns() {
            xs = new int[MOST];
            ys = new int[MOST];
        }

        static int kernelAt(StepSet s, int x, int y) {
            int[] w = s.weights;
            long outer = times(mixed(w[1], w[2], w[3], y), x) + (long) times(mixed(w[7], w[6], w[5], y), inverse(x));
            return residue(outer + mixed(w[0], 0, w[4], y));
        }

        /** Weights times v, 1 and 1 by v. */
        private static int mixed(int up, int level, int down, int v) {
            return residue((long) up * v + level + (long) down * inverse(v));
        }

        static int newX(StepSet s, int x, int y) {
            int[] w = s.weights;
            return quotient(mixed(w[7], w[6], w[5], y), mixed(w[1], w[2], w[3], y), x);
        }

        static int newY(StepSet s, int x, int y) {
            int[] w = s.weights;
            return quotient(mixed(w[3], w[4], w[5], x), mixed(w[1], w[0], w[7], x), y);
        }

        private static int quotient(int over, int under, int old) {
            return over == 0 || under == 0 ? NONE : times(over, inverse(times(under, old)));
        }

        /** How many pairs, which then stand in xs and ys, or NONE. */
        int follow(StepSet s, int x, int y) {
            int nowX = x;
            int nowY = y;
            for (int pairs = 0; pairs < MOST; pairs += 2) {
                xs[pairs] = nowX;
                ys[pairs] = nowY;
                nowX = newX(s, nowX, nowY);
                if (nowX == NONE) {
                    return NONE;
                }
                xs[pairs + 1] = nowX;
                ys[pairs + 1] = nowY;
                nowY = newY(s, nowX, nowY);
                if (nowY == NONE) {
                    return NONE;
                }
                if (nowX == x && nowY == y) {
                    return pairs + 2;
                }
            }
            return NONE;
        }

        int greatest(StepSet s) {
            int first = follow(s, 2, 3);
            int second = first == NONE ? NONE : follow(s, 5, 7);
            int third = second == NONE ? NONE : follow(s, 11, 13);
            return third == NONE ? NONE : Math.max(first, Math.max(second, third));
        }

        int alternating(int pairs) {
            long all = 0;
            for (int i = 0; i < pairs && i < MOST; i++) {
                int product = times(xs[i], ys[i]);
                all += i % 2 == 0 ? product : -product;
            }
            return residue(all);
        }
    }

    /** A table of numbers and its elimination, which spoils it. */
    private static final class Matrix {
        static final int ROWS = 32;
        static final int COLUMNS = 28;
        private final long[][] cells;
        private int rows;
        private int columns;
        private int product;

        Matrix() {
            cells = new long[ROWS][COLUMNS];
        }

        void shape(int rowsNow, int columnsNow) {
            rows = Math.max(0, Math.min(rowsNow, ROWS));
            columns = Math.max(0, Math.min(columnsNow, COLUMNS));
            product = 1;
        }

        void put(int row, int column, long number) {
            if (within(row, 0, rows - 1) && within(column, 0, columns - 1)) {
                cells[row][column] = number;
            }
        }

        int pivots() {
            int found = 0;
            for (int column = 0; column < columns; column++) {
                if (clearsBy(found, column)) {
                    found++;
                }
            }
            return found;
        }

        int determinant() {
            for (int column = 0; column < columns; column++) {
                if (!clearsBy(column, column)) {
                    return 0;
                }
            }
            return product;
        }

        /** The first column that those ahead of it make up, or NONE. */
        int firstMadeUp() {
            for (int column = 0; column < columns; column++) {
                if (!clearsBy(column, column)) {
                    return column;
                }
            }
            return NONE;
        }

        /** Behind firstMadeUp(): by how much of an earlier one that column is made up. */
        int share(int earlier, int column) {
            boolean isHeld = within(earlier, 0, rows - 1) && within(column, 0, columns - 1);
            return isHeld ? (int) cells[earlier][column] : 0;
        }

        /** A pivot of that column, from that row on, becomes 1 in that row and clears all others. */
        private boolean clearsBy(int row, int column) {
            int found = row;
            while (found < rows && cells[found][column] == 0) {
                found++;
            }
            if (found >= rows) {
                return false;
            }
            long[] pivot = cells[found];
            cells[found] = cells[row];
            cells[row] = pivot;
            product = times(product, found == row ? pivot[column] : PRIME - pivot[column]);
            long inverse = inverse((int) pivot[column]);
            for (int c = column; c < columns; c++) {
                pivot[c] = times(pivot[c], inverse);
            }
            for (int r = 0; r < rows; r++) {
                if (r != row && cells[r][column] != 0) {
                    clear(cells[r], pivot, column);
                }
            }
            return true;
        }

        private void clear(long[] line, long[] pivot, int column) {
            long factor = PRIME - line[column];
            for (int c = column; c < columns; c++) {
                line[c] = (line[c] + factor * pivot[c]) % PRIME;
            }
        }
    }

    /** RECURRENCES and EQUATIONS of one SERIES. */
    private static final class Guess {
        static final int RECURRENCE = 0;
        static final int EQUATION = 1;
        private final Matrix matrix;
        /** The SERIES to the 0, 1, 2, 3. */
        private final int[][] powers;
        private final int[] found;
        private int which;

        Guess(Matrix matrix) {
            this.matrix = matrix;
            powers = new int[4][TERMS];
            found = new int[Matrix.COLUMNS];
        }

        static boolean isShape(int which, int r, int d) {
            return which == RECURRENCE ? within(r, 1, 4) && within(d, 0, 4) : within(r, 1, 3) && within(d, 0, 6);
        }

        void load(int[] terms, int kind, int what) {
            which = what;
            Arrays.fill(powers[0], 0);
            powers[0][0] = 1;
            for (int n = 0; n < TERMS && kind * TERMS + n < terms.length; n++) {
                powers[1][n] = terms[kind * TERMS + n];
            }
            if (which == EQUATION) {
                multiply(powers[1], powers[1], powers[2]);
                multiply(powers[2], powers[1], powers[3]);
            }
        }

        private static void multiply(int[] one, int[] other, int[] product) {
            for (int n = 0; n < TERMS; n++) {
                long all = 0;
                for (int i = 0; i <= n; i++) {
                    all += times(one[i], other[n - i]);
                }
                product[n] = residue(all);
            }
        }

        int coefficient(int r, int d, int i, int j) {
            int place = i * (d + 1) + j;
            return solve(r, d) && within(place, 0, found.length - 1) ? found[place] : NONE;
        }

        int failing(int r, int d) {
            return solve(r, d) ? firstMiss(r, d) : NO_SUCH;
        }

        /** Whether there is one; it then stands in found. */
        private boolean solve(int r, int d) {
            int unknown = (r + 1) * (d + 1);
            matrix.shape(unknown + 4, unknown);
            for (int n = 0; n < unknown + 4; n++) {
                for (int place = 0; place < unknown; place++) {
                    matrix.put(n, place, factor(place / (d + 1), place % (d + 1), n));
                }
            }
            int last = matrix.firstMadeUp();
            Arrays.fill(found, 0);
            if (last == NONE) {
                return false;
            }
            for (int place = 0; place < last; place++) {
                found[place] = residue(-matrix.share(place, last));
            }
            found[last] = 1;
            return true;
        }

        /** What c(i, j) is multiplied by in the n-th line. */
        private int factor(int i, int j, int n) {
            if (which == EQUATION) {
                return n < j ? 0 : powers[i][n - j];
            }
            long product = powers[1][n + i];
            for (int times = 0; times < j; times++) {
                product = product * n % PRIME;
            }
            return (int) product;
        }

        /** Where the one in found FAILS, or NONE. */
        private int firstMiss(int r, int d) {
            int unknown = (r + 1) * (d + 1);
            int last = which == EQUATION ? LONGEST : LONGEST - r;
            for (int n = 0; n <= last; n++) {
                long all = 0;
                for (int place = 0; place < unknown; place++) {
                    if (found[place] != 0) {
                        all += times(found[place], factor(place / (d + 1), place % (d + 1), n));
                    }
                }
                if (all % PRIME != 0) {
                    return n;
                }
            }
            return NONE;
        }

        int smallest() {
            for (int unknown = 2; unknown <= Matrix.COLUMNS; unknown++) {
                for (int r = 1; r <= 4; r++) {
                    int d = unknown / (r + 1) - 1;
                    boolean isWhole = unknown % (r + 1) == 0 && isShape(which, r, d);
                    if (isWhole && solve(r, d) && firstMiss(r, d) == NONE) {
                        return 10 * r + d;
                    }
                }
            }
            return NONE;
        }
    }
}
