import java.util.ArrayList;
import java.util.HashSet;
import java.util.List;
import java.util.Random;
import java.util.Set;
import java.util.regex.Matcher;
import java.util.regex.Pattern;

/** The FAULT of random texts (promise 4), and SETS told in odd ways (5, 46), against a pattern. */
public final class TextTest {
    private static final Check CHECK = new Check();
    private static final Pattern PART = Pattern.compile("[a-z]+|[0-9]+|[^ ]");
    /** S a STEP, D a digit, Z a 0, F from. */
    private static final Pattern SET = Pattern.compile("(SD?)+(;F[DZ][DZ])?");

    public static void main(String[] args) {
        Random r = new Random(7);
        String[] parts = {"n", "ne", "e", "se", "s", "sw", "w", "nw", " ", " ", " ", "1", "9", "0", "5", "12", ";", "; from ",
            ";from", "from", "x", "nne", "N", "-", ".", "\t", "\u00ff", "3 4"};
        for (int i = 0; i < 60000; i++) {
            StringBuilder text = new StringBuilder();
            int many = r.nextInt(i % 2 == 0 ? 6 : 16);
            for (int k = 0; k < many; k++) {
                text.append(parts[r.nextInt(i % 3 == 0 ? parts.length : 19)]).append(r.nextBoolean() ? " " : "");
            }
            compare(text.toString());
        }
        for (int i = 0; i < 3000; i++) {
            told(Plain.random(r), r);
        }
        CHECK.close();
    }

    private static void compare(String text) {
        QuarterWalks q = new QuarterWalks();
        if (text.length() > 200) {
            return;
        }
        int want = fault(text);
        CHECK.due("fault of '" + text + "'", Check.fault(q, text), want);
        CHECK.due("tell '" + text + "'", q.tell(), want < 0 ? 0 : -1);
        CHECK.due("tape '" + text + "'", q.count(0), want < 0 ? 0 : text.length());
    }

    private static int fault(String text) {
        List<Integer> begins = new ArrayList<>();
        StringBuilder kinds = new StringBuilder();
        Set<String> told = new HashSet<>();
        Matcher part = PART.matcher(text);
        while (part.find()) {
            begins.add(part.start());
            kinds.append(kind(part.group(), told));
        }
        for (int k = 1; k <= kinds.length(); k++) {
            Matcher ahead = SET.matcher(kinds.substring(0, k));
            if (!ahead.matches() && !ahead.hitEnd()) {
                return begins.get(k - 1);
            }
        }
        return SET.matcher(kinds).matches() ? -1 : text.length();
    }

    private static char kind(String part, Set<String> told) {
        if (List.of(Plain.NAMES).contains(part)) {
            return told.add(part) ? 'S' : '?';
        }
        if (part.equals("from") || part.equals("0") || part.equals(";")) {
            return part.equals("from") ? 'F' : part.equals("0") ? 'Z' : ';';
        }
        return part.matches("[1-9]") ? 'D' : '?';
    }

    /** STEPS in any order, blanks only where they part what would be one. */
    private static void told(Plain p, Random r) {
        List<Integer> order = new ArrayList<>(List.of(0, 1, 2, 3, 4, 5, 6, 7));
        java.util.Collections.shuffle(order, r);
        StringBuilder text = new StringBuilder(" ".repeat(r.nextInt(3)));
        for (int k : order) {
            if (p.w[k] > 0) {
                String blank = text.length() > 0 && Character.isLetter(text.charAt(text.length() - 1)) ? " " : "";
                text.append(blank).append(Plain.NAMES[k]).append(r.nextBoolean() ? " " : "");
                text.append(p.w[k] == 1 && r.nextBoolean() ? "" : "" + p.w[k]).append(r.nextBoolean() ? " " : "");
            }
        }
        if (p.sx + p.sy > 0 || r.nextInt(3) == 0) {
            text.append(";").append(r.nextBoolean() ? " " : "").append("from").append(p.sx).append(" ").append(p.sy);
        }
        text.append(" ".repeat(r.nextInt(3)));
        QuarterWalks q = new QuarterWalks();
        CHECK.due("tell '" + text + "'", Check.tell(q, text.toString()), 0);
        CHECK.due("written '" + text + "'", Check.written(q, 0).equals(p.text()), true);
    }
}
