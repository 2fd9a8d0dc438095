import java.io.IOException;
import java.lang.reflect.Constructor;
import java.lang.reflect.Field;
import java.lang.reflect.Method;
import java.lang.reflect.Modifier;
import java.nio.file.Files;
import java.nio.file.Path;
import java.util.ArrayList;
import java.util.Arrays;
import java.util.List;
import java.util.Set;
import java.util.TreeSet;
import java.util.regex.Matcher;
import java.util.regex.Pattern;

/** 'The public face' of the document, line by line, against the class as it was compiled: no less, and no more. */
public final class FaceTest {
    private static final Check CHECK = new Check();
    private static final Pattern HEAD = Pattern.compile("public (?:(\\w+) )?(\\w+)\\(([^)]*)\\)(?: throws (\\w+))?;");
    private static final Pattern CONSTANT = Pattern.compile("public static final int (\\w+) = (-?\\d+);");

    public static void main(String[] args) throws IOException, IllegalAccessException {
        List<String> lines = told();
        CHECK.due("lines of the face", lines.size(), 2 + 1 + 51);
        heads(lines);
        constants(lines);
        theClass();
        classesInside();
        CHECK.close();
    }

    /** What stands between the class's first line and its last one. */
    private static List<String> told() throws IOException {
        String text = Files.readString(Path.of("../shared/DOC.md"));
        String opening = "public final class QuarterWalks {\n";
        int from = text.indexOf(opening) + opening.length();
        List<String> lines = new ArrayList<>();
        for (String line : text.substring(from, text.indexOf("\n}", from)).split("\n")) {
            lines.add(line.strip());
        }
        return lines;
    }

    private static void heads(List<String> lines) {
        Set<String> want = new TreeSet<>();
        for (String line : lines) {
            Matcher m = HEAD.matcher(line);
            if (m.matches()) {
                String types = m.group(3).isEmpty() ? "" : m.group(3).replaceAll(" \\w+(, |$)", "$1");
                String answers = m.group(1) == null ? "" : m.group(1) + " ";
                want.add(answers + m.group(2) + "(" + types + ")" + (m.group(4) == null ? "" : " throws " + m.group(4)));
            }
        }
        Set<String> got = new TreeSet<>();
        for (Constructor<?> one : QuarterWalks.class.getDeclaredConstructors()) {
            if (isOpen("the constructor", one.getModifiers(), Modifier.PUBLIC)) {
                got.add(one.getName() + "(" + names(one.getParameterTypes()) + ")" + thrown(one.getExceptionTypes()));
            }
        }
        for (Method one : QuarterWalks.class.getDeclaredMethods()) {
            if (isOpen(one.getName(), one.getModifiers(), Modifier.PUBLIC)) {
                got.add(one.getReturnType() + " " + one.getName() + "(" + names(one.getParameterTypes()) + ")"
                    + thrown(one.getExceptionTypes()));
            }
        }
        alike("head", got, want);
    }

    private static void constants(List<String> lines) throws IllegalAccessException {
        Set<String> want = new TreeSet<>();
        for (String line : lines) {
            Matcher m = CONSTANT.matcher(line);
            if (m.matches()) {
                want.add("int " + m.group(1) + " = " + m.group(2));
            }
        }
        Set<String> got = new TreeSet<>();
        for (Field one : QuarterWalks.class.getDeclaredFields()) {
            if (isOpen(one.getName(), one.getModifiers(), Modifier.PUBLIC | Modifier.STATIC | Modifier.FINAL)) {
                got.add(one.getType() + " " + one.getName() + " = " + one.get(null));
            }
        }
        alike("constant", got, want);
    }

    /** Whether it is no private one; it must be just so then. */
    private static boolean isOpen(String name, int modifiers, int wanted) {
        if (Modifier.isPrivate(modifiers)) {
            return false;
        }
        CHECK.due(name + " is " + Modifier.toString(modifiers), modifiers, wanted);
        return true;
    }

    private static String names(Class<?>[] types) {
        return String.join(", ", Arrays.stream(types).map(Class::getSimpleName).toList());
    }

    private static String thrown(Class<?>[] types) {
        return types.length == 0 ? "" : " throws " + names(types);
    }

    private static void alike(String kind, Set<String> got, Set<String> want) {
        Set<String> all = new TreeSet<>(got);
        all.addAll(want);
        for (String one : all) {
            CHECK.due(kind + " in the class: " + one, got.contains(one), true);
            CHECK.due(kind + " in the document: " + one, want.contains(one), true);
        }
    }

    private static void theClass() {
        Class<?> face = QuarterWalks.class;
        CHECK.due("public and final", face.getModifiers(), Modifier.PUBLIC | Modifier.FINAL);
        CHECK.due("no package", face.getPackageName().isEmpty(), true);
        CHECK.due("nothing above it", face.getSuperclass() == Object.class && face.getInterfaces().length == 0, true);
    }

    private static void classesInside() {
        for (Class<?> inside : QuarterWalks.class.getDeclaredClasses()) {
            int modifiers = inside.getModifiers();
            CHECK.due(inside + " is static", Modifier.isStatic(modifiers), true);
            CHECK.due(inside + " is not seen outside", Modifier.isPublic(modifiers) || Modifier.isProtected(modifiers), false);
        }
    }
}
