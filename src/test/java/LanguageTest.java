import com.sun.source.tree.*;
import com.sun.source.util.JavacTask;
import com.sun.source.util.TreePath;
import com.sun.source.util.TreePathScanner;
import com.sun.source.util.Trees;
import java.io.IOException;
import java.nio.file.Files;
import java.nio.file.Path;
import java.util.ArrayList;
import java.util.HashMap;
import java.util.HashSet;
import java.util.List;
import java.util.Map;
import java.util.Set;
import java.util.TreeMap;
import java.util.TreeSet;
import javax.lang.model.element.Element;
import javax.lang.model.element.ElementKind;
import javax.lang.model.element.ExecutableElement;
import javax.lang.model.element.Modifier;
import javax.lang.model.element.TypeElement;
import javax.lang.model.type.ArrayType;
import javax.lang.model.type.TypeKind;
import javax.lang.model.type.TypeMirror;
import javax.tools.JavaCompiler;
import javax.tools.StandardJavaFileManager;
import javax.tools.ToolProvider;

/** The rules of LANGUAGE.md, by what the compiler itself reads in the source. FaceTest has the rest of rule 1. */
public final class LanguageTest {
    private static final Check CHECK = new Check();
    private static final Path SOURCE = Path.of("src/main/java/QuarterWalks.java");
    /** Rule 4, as far as the class uses it. */
    private static final Set<String> LIBRARY = Set.of("Math.max(int,int)", "Math.min(int,int)", "Math.min(long,long)",
        "Integer.bitCount(int)", "Arrays.copyOf(int[],int)", "Arrays.fill(int[],int)", "String.charAt(int)",
        "StringBuilder.append(char)", "StringBuilder.append(java.lang.String)", "StringBuilder.append(int)",
        "StringBuilder.charAt(int)", "StringBuilder.length()", "StringBuilder.setLength(int)");
    /** Rules 2, 6, 10: kinds of code that the class does without. */
    private static final Set<Tree.Kind> BANNED = Set.of(Tree.Kind.LAMBDA_EXPRESSION, Tree.Kind.MEMBER_REFERENCE,
        Tree.Kind.TRY, Tree.Kind.CATCH, Tree.Kind.SYNCHRONIZED, Tree.Kind.ASSERT, Tree.Kind.INSTANCE_OF,
        Tree.Kind.DOUBLE_LITERAL, Tree.Kind.FLOAT_LITERAL, Tree.Kind.ANNOTATION, Tree.Kind.SWITCH_EXPRESSION);
    private static final Set<TypeKind> NUMBERS = Set.of(TypeKind.INT, TypeKind.LONG, TypeKind.BOOLEAN, TypeKind.CHAR);
    private static final int DEEPEST = 8;
    private static final int LONGEST_METHOD = 60;

    public static void main(String[] args) throws IOException {
        JavaCompiler compiler = ToolProvider.getSystemJavaCompiler();
        try (StandardJavaFileManager files = compiler.getStandardFileManager(null, null, null)) {
            JavacTask task = (JavacTask) compiler.getTask(null, files, null, List.of("-proc:none"), null,
                files.getJavaFileObjects(SOURCE));
            CompilationUnitTree unit = task.parse().iterator().next();
            task.analyze();
            Reader reader = new Reader(Trees.instance(task), unit);
            reader.scan(new TreePath(unit), null);
            reader.finish();
        }
        signs(Files.readString(SOURCE));
        CHECK.close();
    }

    private static void signs(String source) {
        CHECK.by("rule 4: signs");
        CHECK.due("plain ones", source.chars().allMatch(c -> c == '\n' || c >= 32 && c < 127), true);
    }

    /** Goes through the whole source once. */
    private static final class Reader extends TreePathScanner<Void, Void> {
        private final Trees trees;
        private final CompilationUnitTree unit;
        private final Map<String, Set<String>> calls = new TreeMap<>();
        private final Set<String> faceNames = new HashSet<>();
        private final List<String> ownNames = new ArrayList<>();
        private final List<String> thrownBy = new ArrayList<>();
        private int classes;

        Reader(Trees trees, CompilationUnitTree unit) {
            this.trees = trees;
            this.unit = unit;
        }

        private void due(String rule, Tree tree, boolean holds) {
            CHECK.by("rule " + rule);
            long at = trees.getSourcePositions().getStartPosition(unit, tree);
            CHECK.due("line " + unit.getLineMap().getLineNumber(at) + ": " + tree.getKind(), holds, true);
        }

        private Element element() {
            return trees.getElement(getCurrentPath());
        }

        private static boolean isOwn(Element one) {
            Element outer = one;
            while (outer.getEnclosingElement() != null && outer.getEnclosingElement().getKind() != ElementKind.PACKAGE) {
                outer = outer.getEnclosingElement();
            }
            return outer.getSimpleName().contentEquals("QuarterWalks");
        }

        private static String name(Element method) {
            return method.getEnclosingElement().getSimpleName() + "." + method.getSimpleName();
        }

        /** Name and types, so that two methods of one name stay two. */
        private static String signature(Element method) {
            // Where the library itself keeps what a StringBuilder does is not told in the rules.
            String owner = method.getEnclosingElement().getSimpleName().toString();
            return (owner.equals("AbstractStringBuilder") ? "StringBuilder" : owner) + "." + method;
        }

        private <T extends Tree> T around(Class<T> kind) {
            for (TreePath path = getCurrentPath(); path != null; path = path.getParentPath()) {
                if (kind.isInstance(path.getLeaf())) {
                    return kind.cast(path.getLeaf());
                }
            }
            return null;
        }

        private Element method() {
            MethodTree method = around(MethodTree.class);
            return method == null ? null : trees.getElement(trees.getPath(unit, method));
        }

        @Override
        public Void scan(Tree tree, Void nothing) {
            if (tree != null && BANNED.contains(tree.getKind())) {
                due("2, 6, 10", tree, false);
            }
            return super.scan(tree, nothing);
        }

        @Override
        public Void visitImport(ImportTree tree, Void nothing) {
            String what = tree.getQualifiedIdentifier().toString();
            due("4", tree, Set.of("java.util.Arrays", "java.util.NoSuchElementException").contains(what));
            return super.visitImport(tree, nothing);
        }

        @Override
        public Void visitClass(ClassTree tree, Void nothing) {
            classes++;
            Element one = element();
            boolean isInside = one.getEnclosingElement().getKind() != ElementKind.PACKAGE;
            due("2", tree, !isInside || one.getModifiers().contains(Modifier.STATIC));
            due("2", tree, one.getEnclosingElement().getKind() != ElementKind.METHOD && !tree.getSimpleName().isEmpty());
            int fields = 0;
            for (Tree member : tree.getMembers()) {
                due("5", member, member.getKind() != Tree.Kind.BLOCK);
                boolean isField = member instanceof VariableTree;
                fields += isField && !((VariableTree) member).getModifiers().getFlags().contains(Modifier.STATIC) ? 1 : 0;
            }
            due("11", tree, fields <= 20);
            return super.visitClass(tree, nothing);
        }

        @Override
        public Void visitMethod(MethodTree tree, Void nothing) {
            ExecutableElement one = (ExecutableElement) element();
            calls.computeIfAbsent(signature(one), k -> new TreeSet<>());
            boolean isFace = one.getModifiers().contains(Modifier.PUBLIC);
            String name = one.getSimpleName().toString();
            if (isFace) {
                faceNames.add(name);
            } else {
                ownNames.add(name);
            }
            LineMap lines = unit.getLineMap();
            long from = lines.getLineNumber(trees.getSourcePositions().getStartPosition(unit, tree));
            long to = lines.getLineNumber(Math.max(0, trees.getSourcePositions().getEndPosition(unit, tree)));
            due("11", tree, to - from < LONGEST_METHOD);
            due("11", tree, tree.getParameters().size() <= 7);
            return super.visitMethod(tree, nothing);
        }

        @Override
        public Void visitVariable(VariableTree tree, Void nothing) {
            Element one = element();
            due("3", tree, isTypeAllowed(one.asType()));
            if (one.getModifiers().contains(Modifier.STATIC)) {
                due("5", tree, one.getModifiers().contains(Modifier.FINAL));
                due("5", tree, isConstant(one.asType(), tree.getInitializer()));
            }
            return super.visitVariable(tree, nothing);
        }

        private static boolean isTypeAllowed(TypeMirror type) {
            if (type.getKind() == TypeKind.ARRAY) {
                TypeMirror part = ((ArrayType) type).getComponentType();
                boolean isOfRows = part.getKind() == TypeKind.ARRAY;
                TypeMirror inner = isOfRows ? ((ArrayType) part).getComponentType() : part;
                boolean isOwnClass = !isOfRows && inner.toString().startsWith("QuarterWalks.");
                return NUMBERS.contains(inner.getKind()) || isOwnClass;
            }
            String name = type.toString();
            boolean isText = name.equals("java.lang.String") || name.equals("java.lang.StringBuilder");
            return NUMBERS.contains(type.getKind()) || isText || name.startsWith("QuarterWalks.");
        }

        private static boolean isConstant(TypeMirror type, ExpressionTree value) {
            if (type.getKind() == TypeKind.ARRAY) {
                return value instanceof NewArrayTree && ((NewArrayTree) value).getInitializers() != null;
            }
            return NUMBERS.contains(type.getKind()) || type.toString().equals("java.lang.String");
        }

        @Override
        public Void visitMethodInvocation(MethodInvocationTree tree, Void nothing) {
            Element called = element();
            Element caller = method();
            if (called.getKind() == ElementKind.METHOD && !isOwn(called)) {
                due("4", tree, LIBRARY.contains(signature(called)));
            }
            // The call of the class above that each constructor begins with is none of ours.
            if (caller != null && called.getKind() == ElementKind.METHOD) {
                calls.computeIfAbsent(signature(caller), k -> new TreeSet<>()).add(signature(called));
            }
            return super.visitMethodInvocation(tree, nothing);
        }

        @Override
        public Void visitNewClass(NewClassTree tree, Void nothing) {
            Element maker = element();
            TypeElement made = (TypeElement) maker.getEnclosingElement();
            String name = made.getSimpleName().toString();
            due("2", tree, tree.getClassBody() == null);
            due("4, 6", tree, isOwn(made) || Set.of("StringBuilder", "NoSuchElementException").contains(name));
            due("12", tree, !isInLoop() || method().getKind() == ElementKind.CONSTRUCTOR);
            calls.computeIfAbsent(signature(method()), k -> new TreeSet<>()).add(signature(maker));
            return super.visitNewClass(tree, nothing);
        }

        @Override
        public Void visitNewArray(NewArrayTree tree, Void nothing) {
            due("12", tree, !isInLoop());
            return super.visitNewArray(tree, nothing);
        }

        private boolean isInLoop() {
            return around(ForLoopTree.class) != null || around(WhileLoopTree.class) != null
                || around(EnhancedForLoopTree.class) != null || around(DoWhileLoopTree.class) != null;
        }

        @Override
        public Void visitThrow(ThrowTree tree, Void nothing) {
            thrownBy.add(name(method()));
            due("6", tree, tree.getExpression().toString().equals("new NoSuchElementException()"));
            return super.visitThrow(tree, nothing);
        }

        @Override
        public Void visitForLoop(ForLoopTree tree, Void nothing) {
            due("9", tree, isComparison(tree.getCondition()) && !tree.getUpdate().isEmpty());
            return super.visitForLoop(tree, nothing);
        }

        @Override
        public Void visitWhileLoop(WhileLoopTree tree, Void nothing) {
            ExpressionTree condition = ((ParenthesizedTree) tree.getCondition()).getExpression();
            due("9", tree, isComparison(condition));
            return super.visitWhileLoop(tree, nothing);
        }

        @Override
        public Void visitDoWhileLoop(DoWhileLoopTree tree, Void nothing) {
            due("9", tree, false);
            return super.visitDoWhileLoop(tree, nothing);
        }

        /** A counter against a bound, perhaps with more behind it. */
        private static boolean isComparison(ExpressionTree tree) {
            if (tree == null) {
                return false;
            }
            if (tree.getKind() == Tree.Kind.CONDITIONAL_AND) {
                return isComparison(((BinaryTree) tree).getLeftOperand());
            }
            return Set.of(Tree.Kind.LESS_THAN, Tree.Kind.LESS_THAN_EQUAL, Tree.Kind.GREATER_THAN,
                Tree.Kind.GREATER_THAN_EQUAL).contains(tree.getKind());
        }

        @Override
        public Void visitTypeCast(TypeCastTree tree, Void nothing) {
            due("6", tree, tree.getType() instanceof PrimitiveTypeTree);
            return super.visitTypeCast(tree, nothing);
        }

        @Override
        public Void visitBinary(BinaryTree tree, Void nothing) {
            boolean isText = trees.getTypeMirror(getCurrentPath()).toString().equals("java.lang.String");
            due("10", tree, !isText);
            if (tree.getKind() == Tree.Kind.EQUAL_TO || tree.getKind() == Tree.Kind.NOT_EQUAL_TO) {
                due("6", tree, !isTextSide(tree.getLeftOperand()) && !isTextSide(tree.getRightOperand()));
            }
            return super.visitBinary(tree, nothing);
        }

        private boolean isTextSide(ExpressionTree side) {
            TypeMirror type = trees.getTypeMirror(new TreePath(getCurrentPath(), side));
            return type != null && Set.of("java.lang.String", "java.lang.Integer").contains(type.toString());
        }

        @Override
        public Void visitAssignment(AssignmentTree tree, Void nothing) {
            changes(tree, tree.getVariable());
            return super.visitAssignment(tree, nothing);
        }

        @Override
        public Void visitCompoundAssignment(CompoundAssignmentTree tree, Void nothing) {
            changes(tree, tree.getVariable());
            return super.visitCompoundAssignment(tree, nothing);
        }

        @Override
        public Void visitUnary(UnaryTree tree, Void nothing) {
            changes(tree, tree.getExpression());
            return super.visitUnary(tree, nothing);
        }

        /** No element of a static row is ever changed. */
        private void changes(Tree tree, ExpressionTree changed) {
            if (changed instanceof ArrayAccessTree) {
                ExpressionTree row = ((ArrayAccessTree) changed).getExpression();
                Element one = trees.getElement(new TreePath(getCurrentPath(), row));
                due("5", tree, one == null || !one.getModifiers().contains(Modifier.STATIC));
            }
        }

        void finish() {
            CHECK.by("rule 1");
            faceNames.remove("<init>");
            CHECK.due("methods of the face", faceNames.size(), 51);
            for (String name : ownNames) {
                CHECK.due(name + " is no name of the face", faceNames.contains(name), false);
            }
            CHECK.by("rule 6");
            CHECK.due("rule alone throws", thrownBy.equals(List.of("QuarterWalks.rule")), true);
            CHECK.by("rule 11");
            CHECK.due("classes: at most twelve", classes <= 12, true);
            Map<String, Integer> known = new HashMap<>();
            for (String method : calls.keySet()) {
                CHECK.by("rules 8, 11");
                int deep = depth(method, known, new HashSet<>());
                CHECK.due(method + " goes at most eight deep: " + deep, deep <= DEEPEST, true);
            }
        }

        /** How many calls stand open at once, this one and the library's, too; far too many if it calls itself. */
        private int depth(String method, Map<String, Integer> known, Set<String> open) {
            if (known.containsKey(method)) {
                return known.get(method);
            }
            if (!open.add(method)) {
                return 1000;
            }
            int deepest = 0;
            for (String called : calls.getOrDefault(method, Set.of())) {
                deepest = Math.max(deepest, depth(called, known, open));
            }
            open.remove(method);
            known.put(method, deepest + 1);
            return deepest + 1;
        }
    }
}
