import java.io.IOException;
import java.nio.file.Files;
import java.nio.file.Path;
import java.util.ArrayList;
import java.util.HashSet;
import java.util.List;
import java.util.Set;
import java.util.regex.Matcher;
import java.util.regex.Pattern;

/** Rules of LANGUAGE.md that a look at the source can tell. */
public final class LanguageTest {
    private static final Check CHECK = new Check();
    private static final Pattern METHOD = Pattern.compile(
        "^( +)(public |private |static |final )*[\\w\\[\\]<>]+ (\\w+)\\(([^)]*)\\)( throws \\w+)? \\{$");

    public static void main(String[] args) throws IOException {
        String source = Files.readString(Path.of("src/main/java/QuarterWalks.java"));
        String code = source.replaceAll("(?s)/\\*.*?\\*/", "").replaceAll("//.*", "");
        for (String banned : new String[] {"->", "::", "Exact\\(", "\\bfinally\\b", "\\btry\\b", "\\bcatch\\b", "\\bassert\\b",
            "\\bsynchronized\\b", "\\bprotected\\b", "\\bpackage\\b", "\\binstanceof\\b", "static \\{", "\\bdouble\\b",
            "\\bfloat\\b", "\\bString\\[", "java\\.util\\.\\*", "\\bequals\\(", "\\bhashCode\\b", "\\btoString\\b",
            "\\bRandom\\b", "\\bSystem\\.(?!arraycopy)", "\\bvar\\b", "\" \\+|\\+ \""}) {
            CHECK.due("banned: " + banned, Pattern.compile(banned).matcher(code).find(), false);
        }
        imports(code);
        throwing(code);
        signs(source);
        methods(source);
        CHECK.due("classes: at most twelve", matches(code, "\\bclass \\w+") <= 12, true);
        CHECK.close();
    }

    private static int matches(String code, String pattern) {
        int found = 0;
        Matcher m = Pattern.compile(pattern).matcher(code);
        while (m.find()) {
            found++;
        }
        return found;
    }

    private static void imports(String code) {
        Set<String> allowed = Set.of("java.util.Arrays", "java.util.NoSuchElementException");
        Matcher m = Pattern.compile("import ([\\w.]+);").matcher(code);
        while (m.find()) {
            CHECK.due("import " + m.group(1), allowed.contains(m.group(1)), true);
        }
    }

    private static void throwing(String code) {
        CHECK.due("rule alone throws", matches(code, "\\bthrow\\b"), 1);
        CHECK.due("by its name", matches(code, "throw new NoSuchElementException\\(\\)"), 1);
    }

    private static void signs(String source) {
        boolean plain = source.chars().allMatch(c -> c == '\n' || c >= 32 && c < 127);
        CHECK.due("plain signs", plain, true);
    }

    private static void methods(String source) {
        List<String> lines = List.of(source.split("\n"));
        Set<String> face = new HashSet<>();
        List<String> own = new ArrayList<>();
        for (int i = 0; i < lines.size(); i++) {
            Matcher m = METHOD.matcher(lines.get(i));
            if (!m.matches()) {
                continue;
            }
            int end = i;
            while (!lines.get(end).equals(m.group(1) + "}")) {
                end++;
            }
            CHECK.due(m.group(3) + " is short", end - i < 60, true);
            CHECK.due(m.group(3) + " takes at most seven", m.group(4).split(",").length <= 7, true);
            if (lines.get(i).contains("public ")) {
                face.add(m.group(3));
            } else {
                own.add(m.group(3));
            }
        }
        CHECK.due("methods of the face, and the constructor", face.size(), 52);
        for (String name : own) {
            CHECK.due(name + " is no name of the face", face.contains(name), false);
        }
    }
}
