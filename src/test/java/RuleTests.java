import com.sun.source.tree.*;
import com.sun.source.util.JavacTask;
import com.sun.source.util.SourcePositions;
import com.sun.source.util.TreePath;
import com.sun.source.util.TreePathScanner;
import com.sun.source.util.Trees;
import java.nio.file.Path;
import java.util.ArrayList;
import java.util.HashMap;
import java.util.HashSet;
import java.util.List;
import java.util.Map;
import java.util.Set;
import java.util.TreeSet;
import javax.lang.model.element.Element;
import javax.lang.model.element.ElementKind;
import javax.lang.model.element.ExecutableElement;
import javax.lang.model.element.Modifier;
import javax.lang.model.element.TypeElement;
import javax.lang.model.type.TypeKind;
import javax.lang.model.type.TypeMirror;
import javax.tools.JavaCompiler;
import javax.tools.StandardJavaFileManager;
import javax.tools.ToolProvider;

/** The rules of LANGUAGE.md, by their numbers, looked up in what the compiler makes of the source. */
public final class RuleTests {
    private static final Set<String> TYPES = Set.of("int", "long", "short", "byte", "char", "boolean", "java.lang.String", "java.lang.StringBuilder", "void");
    private static final Set<String> LIBRARY = Set.of("String.length", "String.charAt", "Integer.bitCount", "Integer.numberOfTrailingZeros",
        "Integer.numberOfLeadingZeros", "Long.bitCount", "Math.max", "Math.min", "System.arraycopy", "Object.<init>");
    private static final int DEEP = 8;

    private static Trees trees;
    private static CompilationUnitTree unit;
    private static final Map<String, Set<String>> CALLS = new HashMap<>();

    public static void main(String[] args) throws Exception {
        JavaCompiler compiler = ToolProvider.getSystemJavaCompiler();
        try (StandardJavaFileManager files = compiler.getStandardFileManager(null, null, null)) {
            JavacTask task = (JavacTask) compiler.getTask(null, files, null, List.of("-proc:none"), null,
                files.getJavaFileObjects(Path.of("src/main/java/StinkhornParish.java")));
            unit = task.parse().iterator().next();
            task.analyze();
            trees = Trees.instance(task);
            Looker looker = new Looker();
            looker.scan(unit, null);
            Checks.due("rule 1: the face", looker.open.size(), 62);
            for (String name : looker.closed) Checks.due("rule 1: private and public: " + name, looker.open.contains(name), false);
            Checks.due("rule 11: classes", looker.classes <= 12, true);
            for (String name : looker.fields.keySet()) Checks.due("rule 11: fields of " + name, looker.fields.get(name) <= 20, true);
        }
        recursion();
        Checks.done();
    }

    /** Rule 8 and 11: which methods come back to themselves, and how deep the calls go that do not. */
    private static void recursion() {
        Set<String> again = new TreeSet<>();
        for (String m : CALLS.keySet()) if (reached(m).contains(m)) again.add(m);
        Checks.due("rule 8: recursion: " + again, again.equals(Set.of("Reader.joined", "Reader.denied", "Reader.unit")), true);
        for (String m : CALLS.keySet()) {
            int deep = depth(m, new HashSet<>());
            Checks.due("rule 11: " + m + " goes " + deep + " deep", deep <= DEEP, true);
        }
    }

    private static Set<String> reached(String from) {
        Set<String> all = new HashSet<>();
        List<String> open = new ArrayList<>(CALLS.get(from));
        while (!open.isEmpty()) {
            String m = open.remove(open.size() - 1);
            if (all.add(m)) open.addAll(CALLS.getOrDefault(m, Set.of()));
        }
        return all;
    }

    private static int depth(String method, Set<String> around) {
        if (!around.add(method)) return 0;
        int most = 0;
        for (String next : CALLS.getOrDefault(method, Set.of())) most = Math.max(most, depth(next, around));
        around.remove(method);
        return most + 1;
    }

    private static final class Looker extends TreePathScanner<Void, Void> {
        private final Set<String> open = new HashSet<>();
        private final Set<String> closed = new HashSet<>();
        private final Map<String, Integer> fields = new HashMap<>();
        private int classes = 0;
        private String method = "";

        private Element here() {
            return trees.getElement(getCurrentPath());
        }

        private TypeMirror typeOf(Tree tree) {
            return trees.getTypeMirror(new TreePath(getCurrentPath(), tree));
        }

        private long line(long position) {
            return unit.getLineMap().getLineNumber(position);
        }

        private String place(Tree tree) {
            return " in line " + line(trees.getSourcePositions().getStartPosition(unit, tree));
        }

        private void rule(int number, String what, Tree tree, boolean kept) {
            Checks.due("rule " + number + ": " + what + place(tree), kept, true);
        }

        @Override public Void visitCompilationUnit(CompilationUnitTree tree, Void none) {
            Checks.due("rule 3: nothing is imported", tree.getImports().isEmpty(), true);
            Checks.due("no package", tree.getPackageName() == null, true);
            Checks.due("one class in the file", tree.getTypeDecls().size(), 1);
            return super.visitCompilationUnit(tree, none);
        }

        @Override public Void visitClass(ClassTree tree, Void none) {
            classes++;
            Set<Modifier> flags = tree.getModifiers().getFlags();
            if (getCurrentPath().getParentPath().getLeaf() == unit) {
                rule(1, "public and final", tree, flags.equals(Set.of(Modifier.PUBLIC, Modifier.FINAL)));
            } else {
                rule(2, "a member of the one class", tree, here().getEnclosingElement().toString().equals("StinkhornParish"));
                rule(2, "static", tree, flags.contains(Modifier.STATIC));
                rule(1, "private or seen in the package", tree, !flags.contains(Modifier.PUBLIC) && !flags.contains(Modifier.PROTECTED));
            }
            return super.visitClass(tree, none);
        }

        @Override public Void visitMethod(MethodTree tree, Void none) {
            boolean outer = here().getEnclosingElement().toString().equals("StinkhornParish");
            boolean shown = tree.getModifiers().getFlags().contains(Modifier.PUBLIC);
            if (outer) rule(1, tree.getName() + " is public or private", tree, shown || tree.getModifiers().getFlags().contains(Modifier.PRIVATE));
            boolean made = tree.getReturnType() == null;
            if (outer && shown) open.add(tree.getName().toString());
            else if (!made) closed.add(tree.getName().toString());
            rule(11, tree.getName() + " takes at most seven", tree, tree.getParameters().size() <= 7);
            SourcePositions positions = trees.getSourcePositions();
            long lines = line(positions.getEndPosition(unit, tree)) - line(positions.getStartPosition(unit, tree)) + 1;
            rule(11, tree.getName() + " has " + lines + " lines", tree, lines <= 50);
            if (tree.getReturnType() != null) rule(3, "type " + tree.getReturnType(), tree, fine(typeOf(tree.getReturnType())));
            method = here().getEnclosingElement().getSimpleName() + "." + tree.getName();
            CALLS.computeIfAbsent(method, m -> new HashSet<>());
            super.visitMethod(tree, none);
            method = "";
            return null;
        }

        private boolean fine(TypeMirror type) {
            String name = type.toString();
            int dimensions = 0;
            while (name.endsWith("[]")) {
                name = name.substring(0, name.length() - 2);
                dimensions++;
            }
            return dimensions <= 1 && (TYPES.contains(name) || name.startsWith("StinkhornParish"));
        }

        @Override public Void visitVariable(VariableTree tree, Void none) {
            Element element = here();
            rule(3, "type " + tree.getType(), tree, fine(element.asType()));
            Set<Modifier> flags = element.getModifiers();
            if (element.getKind() == ElementKind.FIELD) {
                boolean isStatic = flags.contains(Modifier.STATIC);
                rule(1, tree.getName() + " is private, or told", tree, flags.contains(Modifier.PRIVATE) || tree.getName().contentEquals("NONE"));
                rule(5, tree.getName() + " is final", tree, !isStatic || flags.contains(Modifier.FINAL));
                if (isStatic) rule(5, tree.getName() + " is written out", tree, writtenOut(tree.getInitializer()));
                if (!isStatic) fields.merge(element.getEnclosingElement().toString(), 1, Integer::sum);
            }
            return super.visitVariable(tree, none);
        }

        private boolean writtenOut(ExpressionTree value) {
            return value instanceof LiteralTree || value instanceof UnaryTree || value instanceof BinaryTree
                || value instanceof NewArrayTree && ((NewArrayTree) value).getInitializers() != null;
        }

        @Override public Void visitMethodInvocation(MethodInvocationTree tree, Void none) {
            ExecutableElement called = (ExecutableElement) here();
            TypeElement owner = (TypeElement) called.getEnclosingElement();
            String name = owner.getSimpleName() + "." + called.getSimpleName();
            if (owner.toString().startsWith("StinkhornParish")) {
                if (!method.isEmpty()) CALLS.get(method).add(name);
            } else {
                rule(4, name, tree, LIBRARY.contains(name));
            }
            return super.visitMethodInvocation(tree, none);
        }

        // ------------------------------------------------------------ rule 2 and 6: what there is none of

        @Override public Void visitLambdaExpression(LambdaExpressionTree tree, Void none) {
            rule(2, "a lambda", tree, false);
            return super.visitLambdaExpression(tree, none);
        }

        @Override public Void visitMemberReference(MemberReferenceTree tree, Void none) {
            rule(2, "a method reference", tree, false);
            return super.visitMemberReference(tree, none);
        }

        @Override public Void visitThrow(ThrowTree tree, Void none) {
            rule(6, "throw", tree, false);
            return super.visitThrow(tree, none);
        }

        @Override public Void visitTry(TryTree tree, Void none) {
            rule(6, "try", tree, false);
            return super.visitTry(tree, none);
        }

        @Override public Void visitSynchronized(SynchronizedTree tree, Void none) {
            rule(6, "synchronized", tree, false);
            return super.visitSynchronized(tree, none);
        }

        @Override public Void visitAssert(AssertTree tree, Void none) {
            rule(6, "assert", tree, false);
            return super.visitAssert(tree, none);
        }

        @Override public Void visitTypeCast(TypeCastTree tree, Void none) {
            rule(6, "a cast of numbers alone", tree, typeOf(tree.getType()).getKind().isPrimitive());
            return super.visitTypeCast(tree, none);
        }

        // ------------------------------------------------------------ rule 5, 7, 9, 10, 12

        @Override public Void visitAssignment(AssignmentTree tree, Void none) {
            if (tree.getVariable() instanceof ArrayAccessTree) {
                Tree row = ((ArrayAccessTree) tree.getVariable()).getExpression();
                rule(5, "no constant row is changed", tree, !row.toString().equals("KEEPING"));
            }
            return super.visitAssignment(tree, none);
        }

        @Override public Void visitBinary(BinaryTree tree, Void none) {
            TypeKind kind = typeOf(tree).getKind();
            rule(10, "no texts are joined by +", tree, kind.isPrimitive());
            boolean divides = tree.getKind() == Tree.Kind.DIVIDE || tree.getKind() == Tree.Kind.REMAINDER;
            if (divides) rule(7, "the divisor " + tree.getRightOperand() + " is no 0", tree, divisor(tree.getRightOperand().toString()));
            return super.visitBinary(tree, none);
        }

        /** Constants, and the few that are looked at in the lines before. */
        private boolean divisor(String what) {
            return what.matches("\\(?[A-Z_ *]+\\)?|[1-9][0-9]*") || Set.of("right", "rest", "divisor").contains(what);
        }

        @Override public Void visitForLoop(ForLoopTree tree, Void none) {
            rule(9, "a counter against a bound", tree, tree.getCondition() != null && tree.getCondition().toString().matches("\\w+ (<|>|<=|>=) .*"));
            rule(9, "the counter goes on", tree, tree.getUpdate().size() == 1);
            return super.visitForLoop(tree, none);
        }

        @Override public Void visitWhileLoop(WhileLoopTree tree, Void none) {
            rule(9, "a counter against a bound", tree, tree.getCondition().toString().matches("\\(\\w+ < length && .*\\)"));
            return super.visitWhileLoop(tree, none);
        }

        @Override public Void visitDoWhileLoop(DoWhileLoopTree tree, Void none) {
            rule(9, "do without a counter", tree, false);
            return super.visitDoWhileLoop(tree, none);
        }

        @Override public Void visitNewClass(NewClassTree tree, Void none) {
            rule(12, "made with the object", tree, method.isEmpty() || method.endsWith("<init>"));
            rule(2, "no class without a name", tree, tree.getClassBody() == null);
            return super.visitNewClass(tree, none);
        }

        @Override public Void visitNewArray(NewArrayTree tree, Void none) {
            rule(12, "made with the object", tree, method.isEmpty() || method.endsWith("<init>"));
            return super.visitNewArray(tree, none);
        }
    }
}
