import java.util.ArrayDeque;
import java.util.ArrayList;
import java.util.Deque;
import java.util.List;
import java.util.Random;

/** Random ACTS (promises 5 to 12, 47 to 52), done, refused and undone, against a list of SETS. */
public final class ActsTest {
    private static final Check CHECK = new Check();
    private final Random r;
    private final QuarterWalks q = new QuarterWalks();
    private List<Plain> book = new ArrayList<>();
    private final Deque<List<Plain>> past = new ArrayDeque<>();
    private List<Plain> image;
    private final int[] status = new int[4];

    private ActsTest(long seed) {
        r = new Random(seed);
    }

    public static void main(String[] args) {
        for (long seed = 1; seed <= 300; seed++) {
            new ActsTest(seed).run();
        }
        CHECK.close();
    }

    private void run() {
        for (int i = 0; i < 150; i++) {
            act();
            compare();
        }
    }

    private int anySet() {
        return r.nextInt(8) == 0 ? r.nextInt(12) - 2 : r.nextInt(Math.max(1, book.size()));
    }

    private boolean has(int set) {
        return set >= 0 && set < book.size();
    }

    private void act() {
        int set = anySet();
        switch (r.nextInt(14)) {
            case 0, 1, 2:
                tell();
                break;
            case 3:
                int dropped = refused(has(set), true, true, true) ? -1 : remove(set);
                CHECK.due("drop " + set, q.drop(set), dropped);
                break;
            case 4:
                CHECK.due("mirror " + set, q.mirror(set), added(has(set), true, has(set) ? moved(book.get(set), true) : null));
                break;
            case 5:
                CHECK.due("turn " + set, q.turn(set), added(has(set), true, has(set) ? moved(book.get(set), false) : null));
                break;
            case 6:
                join(set, anySet());
                break;
            case 7:
                scale(set, r.nextInt(12));
                break;
            case 8:
                weigh(set, r.nextInt(10) - 1, r.nextInt(12) - 1);
                break;
            case 9:
                weigh(set, r.nextInt(8), 0);
                break;
            case 10:
                start(set, r.nextInt(12) - 1, r.nextInt(12) - 1);
                break;
            case 11:
                start(set, r.nextInt(2), r.nextInt(2));
                break;
            case 12:
                CHECK.due("undo", q.undo(), past.isEmpty() ? -1 : past.size() - 1);
                book = past.isEmpty() ? book : past.pop();
                break;
            default:
                imageOrBack();
        }
    }

    private void imageOrBack() {
        if (r.nextInt(3) == 0) {
            image = new ArrayList<>(book);
            CHECK.due("image", q.image(), book.size());
        } else if (r.nextInt(4) == 0) {
            CHECK.due("back", q.back(), image == null ? -1 : image.size());
            if (image != null) {
                book = new ArrayList<>(image);
                past.clear();
            }
        }
    }

    /** Counts the first reason; whether there was one. */
    private boolean refused(boolean is, boolean inBounds, boolean hasRoom, boolean isNew) {
        if (is && inBounds && hasRoom && isNew) {
            return false;
        }
        status[!is ? 0 : !inBounds ? 1 : !hasRoom ? 2 : 3]++;
        return true;
    }

    private void remember() {
        past.push(new ArrayList<>(book));
        if (past.size() > 12) {
            past.removeLast();
        }
    }

    private int remove(int set) {
        remember();
        book.remove(set);
        return book.size();
    }

    private int added(boolean is, boolean inBounds, Plain p) {
        if (refused(is, inBounds, book.size() < 8, true)) {
            return -1;
        }
        remember();
        book.add(p);
        return book.size() - 1;
    }

    private void tell() {
        Plain p = Plain.random(r);
        String text = r.nextInt(6) == 0 ? p.text() + " ?" : p.text();
        boolean hasFault = text.endsWith("?");
        int want = added(!hasFault, true, p);
        CHECK.due("tell " + text, Check.tell(q, text), want);
        CHECK.due("tape", q.count(0), want < 0 ? text.length() : 0);
    }

    private static Plain moved(Plain p, boolean mirrored) {
        int[] w = new int[8];
        for (int k = 0; k < 8; k++) {
            int[] to = mirrored ? new int[] {Plain.STEPS[k][1], Plain.STEPS[k][0]}
                : new int[] {-Plain.STEPS[k][0], -Plain.STEPS[k][1]};
            for (int other = 0; other < 8; other++) {
                if (java.util.Arrays.equals(Plain.STEPS[other], to)) {
                    w[other] = p.w[k];
                }
            }
        }
        return mirrored ? new Plain(w, p.sy, p.sx) : new Plain(w, p.sx, p.sy);
    }

    private void join(int set, int other) {
        boolean is = has(set) && has(other);
        int[] w = new int[8];
        boolean inBounds = true;
        for (int k = 0; is && k < 8; k++) {
            w[k] = book.get(set).w[k] + book.get(other).w[k];
            inBounds &= w[k] <= 9;
        }
        Plain p = is ? new Plain(w, book.get(set).sx, book.get(set).sy) : null;
        CHECK.due("join " + set + " " + other, q.join(set, other), added(is, inBounds, p));
    }

    private void put(int set, int[] w, int x, int y) {
        remember();
        book.set(set, new Plain(w, x, y));
    }

    private void scale(int set, int by) {
        boolean inBounds = by >= 2 && by <= 9;
        int[] w = has(set) ? book.get(set).w.clone() : new int[8];
        int total = 0;
        for (int k = 0; k < 8; k++) {
            w[k] *= by;
            total += w[k];
            inBounds &= w[k] <= 9;
        }
        int want = -1;
        if (!refused(has(set), inBounds, true, true)) {
            put(set, w, book.get(set).sx, book.get(set).sy);
            want = total;
        }
        CHECK.due("scale " + set + " " + by, q.scale(set, by), want);
    }

    private void weigh(int set, int step, int weight) {
        boolean inBounds = step >= 0 && step <= 7 && weight >= 0 && weight <= 9;
        int[] w = has(set) ? book.get(set).w.clone() : new int[8];
        int was = inBounds ? w[step] : -1;
        if (inBounds) {
            w[step] = weight;
            inBounds = java.util.Arrays.stream(w).sum() > 0;
        }
        int want = -1;
        if (!refused(has(set), inBounds, true, was != weight)) {
            put(set, w, book.get(set).sx, book.get(set).sy);
            want = was;
        }
        CHECK.due("weigh " + set + " " + step + " " + weight, q.weigh(set, step, weight), want);
    }

    private void start(int set, int x, int y) {
        boolean inBounds = x >= 0 && x <= 9 && y >= 0 && y <= 9;
        boolean isNew = !has(set) || book.get(set).sx != x || book.get(set).sy != y;
        int want = -1;
        if (!refused(has(set), inBounds, true, isNew)) {
            want = 10 * book.get(set).sx + book.get(set).sy;
            put(set, book.get(set).w, x, y);
        }
        CHECK.due("start " + set + " " + x + " " + y, q.start(set, x, y), want);
    }

    private void compare() {
        CHECK.due("sets", q.count(2), book.size());
        CHECK.due("acts", q.count(1), past.size());
        for (int what = 0; what < 4; what++) {
            CHECK.due("status " + what, q.status(what), status[what]);
        }
        for (int set = 0; set < book.size(); set++) {
            CHECK.due("set " + set, Check.written(q, set).equals(book.get(set).text()), true);
            CHECK.due("first step", q.series(set, 0, 1), book.get(set).series(0, 1));
        }
        CHECK.due("unlike", q.most(3), Plain.unlike(book));
        if (r.nextInt(8) == 0) {
            most();
        }
    }

    private void most() {
        int[] best = {-1, -1, -1};
        int[] height = {-2, -2, -2};
        int common = 255;
        for (int set = 0; set < book.size(); set++) {
            Plain p = book.get(set);
            int bits = 0;
            for (int k = 0; k < 8; k++) {
                bits |= p.w[k] > 0 ? 1 << k : 0;
            }
            common &= bits;
            int[] own = {Integer.bitCount(bits), p.total(), p.group()};
            for (int what = 0; what < 3; what++) {
                if (own[what] > height[what]) {
                    height[what] = own[what];
                    best[what] = set;
                }
            }
        }
        for (int what = 0; what < 3; what++) {
            CHECK.due("most " + what, q.most(what), best[what]);
        }
        CHECK.due("most 4", q.most(4), book.isEmpty() ? -1 : common);
    }
}
