import java.io.ByteArrayOutputStream;
import java.io.IOException;
import java.io.PrintStream;
import java.net.URL;
import java.net.URLClassLoader;
import java.nio.charset.StandardCharsets;
import java.nio.file.Files;
import java.nio.file.Path;
import java.util.ArrayList;
import java.util.Comparator;
import java.util.List;
import java.util.regex.Matcher;
import java.util.regex.Pattern;
import java.util.stream.Stream;
import javax.tools.ToolProvider;

/** README.md's example compiles with the class and answers as README.md says; so do the rows of its table. */
public final class ReadmeTest {
    private static final Check CHECK = new Check();
    private static final Pattern BLOCK = Pattern.compile("```java\n(.*?)```", Pattern.DOTALL);
    private static final Pattern SAID = Pattern.compile("println\\(.*\\);\\s*// (.*?): .*");

    public static void main(String[] args) throws IOException, ReflectiveOperationException {
        String page = Files.readString(Path.of("README.md"));
        Matcher block = BLOCK.matcher(page);
        CHECK.due("there is an example", block.find(), true);
        String code = block.group(1);
        CHECK.due("there is but one", block.find(), false);
        example(code);
        says(page, code);
        table();
        CHECK.close();
    }

    private static void example(String code) throws IOException, ReflectiveOperationException {
        Path place = Files.createTempDirectory("readme");
        try {
            Path file = Files.writeString(place.resolve("Example.java"), code);
            int answer = ToolProvider.getSystemJavaCompiler().run(null, null, null, "-Xlint:all", "-Werror", "-d",
                place.toString(), "src/main/java/QuarterWalks.java", file.toString());
            CHECK.due("the example compiles with the class", answer, 0);
            if (answer == 0) {
                compare(printed(place), said(code));
            }
        } finally {
            remove(place);
        }
    }

    private static void remove(Path place) throws IOException {
        try (Stream<Path> all = Files.walk(place)) {
            for (Path one : all.sorted(Comparator.reverseOrder()).toList()) {
                Files.delete(one);
            }
        }
    }

    /** What stands behind each // up to the colon. */
    private static List<String> said(String code) {
        List<String> answers = new ArrayList<>();
        for (String line : code.split("\n")) {
            Matcher m = SAID.matcher(line);
            if (m.find()) {
                answers.add(m.group(1));
            }
        }
        return answers;
    }

    private static List<String> printed(Path place) throws IOException, ReflectiveOperationException {
        PrintStream out = System.out;
        ByteArrayOutputStream kept = new ByteArrayOutputStream();
        // Nothing of this test's own classes: the example's class is the one compiled with it.
        ClassLoader above = ClassLoader.getPlatformClassLoader();
        try (URLClassLoader loader = new URLClassLoader(new URL[] {place.toUri().toURL()}, above)) {
            System.setOut(new PrintStream(kept, true, StandardCharsets.UTF_8));
            loader.loadClass("Example").getMethod("main", String[].class).invoke(null, (Object) new String[0]);
        } finally {
            System.setOut(out);
        }
        return kept.toString(StandardCharsets.UTF_8).lines().toList();
    }

    private static void compare(List<String> printed, List<String> said) {
        CHECK.due("answers printed, as many as are said", printed.size(), said.size());
        for (int i = 0; i < Math.min(printed.size(), said.size()); i++) {
            CHECK.due("answer " + i + " is " + printed.get(i) + ", said is " + said.get(i),
                printed.get(i).equals(said.get(i)), true);
        }
    }

    /** What the page must have: each of the answers, a call that throws, how the tests are run. */
    private static void says(String page, String code) {
        for (String words : new String[] {"new QuarterWalks()", "q.feed(", "q.tell()", "q.series(", "// -1: NONE",
            "// -1000000: HIDDEN", "// -2: ", "catch (NoSuchElementException e)"}) {
            CHECK.due("the example has " + words, code.contains(words), true);
        }
        CHECK.due("how to run the tests", page.contains("\n    .ci/run\n"), true);
        for (String row : new String[] {"| `NONE`, -1 |", "| `HIDDEN`, -1000000 |", "| -2 |", "Only `rule` throws"}) {
            CHECK.due("the page has " + row, page.contains(row), true);
        }
    }

    private static void table() {
        int none = QuarterWalks.NONE;
        int hidden = QuarterWalks.HIDDEN;
        QuarterWalks q = Check.with("n e s w", "n");
        CHECK.by("NONE, all that change the BOOK");
        long[] refused = {q.tell(), q.drop(9), q.mirror(9), q.turn(9), q.join(0, 9), q.scale(9, 2), q.weigh(9, 0, 1),
            q.start(9, 1, 1)};
        all(refused, none);
        CHECK.due("counted", q.status(0), refused.length);
        CHECK.by("NONE, feed, undo, back");
        q = new QuarterWalks();
        Check.feed(q, " ".repeat(200));
        all(new long[] {q.feed(1, 0, 0, 0, 0), q.undo(), q.back(), q.end(201) ? 1 : none}, none);
        q = Check.with("n e s w", "n");
        CHECK.by("NONE, all is well");
        Check.feed(q, "n");
        all(new long[] {q.fault(), q.fails(0, 0, 2, 2), q.breaks(1, 0, 1, 1)}, none);
        CHECK.by("NONE, there is none");
        all(new long[] {q.orbit(1, 2, 3, 0, 0), q.group(1), q.sum(1, 2, 3), q.recurrence(0, 0, 1, 1, 0, 0),
            q.equation(0, 0, 1, 0, 0, 0), q.least(0, 0, 1)}, none);
        CHECK.by("NONE, no such SET");
        all(new long[] {q.at(0, 9, 0, 0, 0), q.series(9, 0, 0), q.exact(9, 0, 0, 0), q.bridge(9, 0, 0, 0), q.rank(9, 0),
            q.ratio(9, 0, 1), q.hankel(9, 0, 1), q.convolved(9, 0, 0, 0, 0), q.out(9, 0), q.arches(9, 1),
            q.value(9, 0, 0, 0), q.points(9, 0), q.fewest(9, 0, 0), q.period(9), q.meet(9, 0, 0), q.kernel(9, 1, 1),
            q.turned(9, 1, 1, 0), q.noUse(9), q.enough(9), q.alike(9), q.written(9, 0), q.status(4), q.most(5),
            q.count(3)}, none);
        CHECK.by("HIDDEN");
        all(new long[] {q.reflected(9, 0, 0, 0), q.walk(9, 0, 0, 0, none, 0), q.drawn(9, 1, 0, 0, 0, 0), q.peak(9, 0, 0),
            q.recurrence(9, 0, 1, 0, 0, 0), q.fails(9, 0, 1, 0), q.equation(9, 0, 1, 0, 0, 0), q.breaks(9, 0, 1, 0),
            q.least(9, 0, 0)}, hidden);
        CHECK.by("HIDDEN, there is none");
        QuarterWalks stuck = Check.with("s");
        all(new long[] {q.reflected(1, 0, 0, 0), q.walk(1, 2, 0, 0, 0, 0), q.drawn(1, 2, 0, 0, 0, 0), stuck.peak(0, 1, 0)},
            hidden);
        CHECK.by("-2");
        all(new long[] {q.orbit(9, 2, 3, 0, 0), q.group(9), q.sum(9, 2, 3), q.fails(0, 0, 1, 1), q.breaks(0, 0, 1, 0)}, -2);
        CHECK.by("Only rule throws");
        CHECK.due("no such SET", Check.ruleThrows(q, 9, 0), 1);
        CHECK.due("15", Check.ruleThrows(q, 0, 15), 1);
        CHECK.due("DRIFT with its sign", Check.with("w").rule(0, 12), -1);
        CHECK.by("how many");
        CHECK.due("walks", q.walk(0, 2, 0, 0, none, 0), 2);
        CHECK.due("pairs", q.orbit(0, 2, 3, none, 0), 4);
        CHECK.due("bytes", q.written(0, none), 7);
    }

    private static void all(long[] answers, int want) {
        for (int i = 0; i < answers.length; i++) {
            CHECK.due("call " + i, answers[i], want);
        }
    }
}
