import com.sun.source.tree.AssertTree;
import com.sun.source.tree.ClassTree;
import com.sun.source.tree.CompilationUnitTree;
import com.sun.source.tree.DoWhileLoopTree;
import com.sun.source.tree.ForLoopTree;
import com.sun.source.tree.LambdaExpressionTree;
import com.sun.source.tree.MemberReferenceTree;
import com.sun.source.tree.MethodInvocationTree;
import com.sun.source.tree.MethodTree;
import com.sun.source.tree.NewArrayTree;
import com.sun.source.tree.NewClassTree;
import com.sun.source.tree.SynchronizedTree;
import com.sun.source.tree.ThrowTree;
import com.sun.source.tree.Tree;
import com.sun.source.tree.TryTree;
import com.sun.source.tree.TypeCastTree;
import com.sun.source.tree.VariableTree;
import com.sun.source.tree.WhileLoopTree;
import com.sun.source.util.JavacTask;
import com.sun.source.util.SourcePositions;
import com.sun.source.util.TreePath;
import com.sun.source.util.TreePathScanner;
import com.sun.source.util.Trees;
import java.nio.file.Path;
import java.util.List;
import java.util.Map;
import java.util.Set;
import java.util.TreeMap;
import java.util.TreeSet;
import javax.lang.model.element.Element;
import javax.lang.model.element.ElementKind;
import javax.lang.model.element.Modifier;
import javax.tools.JavaCompiler;
import javax.tools.StandardJavaFileManager;
import javax.tools.ToolProvider;

/** LANGUAGE.md by javac's own tree of the source: what is called and how deep, what is made where, which statements there are. */
public final class SourceTest {
    private static final Path SOURCE = Path.of("src/main/java/OverSands.java");
    private static final Set<String> LIBRARY = Set.of("java.lang.Math.max", "java.lang.Math.min", "java.lang.System.arraycopy");
    private static final Set<String> CONSTANTS = Set.of("int", "long", "boolean", "char", "java.lang.String", "int[]", "long[]", "char[]", "byte[]");
    private static final int MOST_DEEP = 8, MOST_LINES = 60, MOST_PARAMETERS = 7, MOST_CLASSES = 12, MOST_FIELDS = 20;
    private static final Check CHECK = new Check("SourceTest");

    public static void main(String[] args) throws Exception {
        JavaCompiler javac = ToolProvider.getSystemJavaCompiler();
        try (StandardJavaFileManager files = javac.getStandardFileManager(null, null, null)) {
            JavacTask task = (JavacTask) javac.getTask(null, files, null, List.of("-proc:none"), null, files.getJavaFileObjects(SOURCE));
            CompilationUnitTree unit = task.parse().iterator().next();
            task.analyze();
            Reader reader = new Reader(Trees.instance(task), unit);
            reader.scan(unit, null);
            CHECK.holds("rule 11: some twelve classes at most, there are " + reader.classes, reader.classes <= MOST_CLASSES);
            for (String method : reader.calls.keySet()) {
                int deep = depth(reader.calls, method, new TreeSet<>());
                CHECK.holds("rule 11: calls go eight deep at most, from " + method + " they go " + deep, deep <= MOST_DEEP);
            }
        }
        CHECK.end();
    }

    /** How many calls stand open at once below and with this one; the class does without recursion, so that it can be told. */
    private static int depth(Map<String, Set<String>> calls, String method, Set<String> open) {
        boolean first = open.add(method);
        CHECK.holds("rule 8: " + method + " does not call itself by way of " + open, first);
        if (!first) return MOST_DEEP + 1;
        int deepest = 0;
        for (String called : calls.getOrDefault(method, Set.of())) deepest = Math.max(deepest, depth(calls, called, open));
        open.remove(method);
        return 1 + deepest;
    }

    private static final class Reader extends TreePathScanner<Void, Void> {
        private final Map<String, Set<String>> calls = new TreeMap<>();
        private final Trees trees;
        private final CompilationUnitTree unit;
        private int classes;

        Reader(Trees trees, CompilationUnitTree unit) {
            this.trees = trees;
            this.unit = unit;
        }

        private static String name(Element element) {
            return element.getEnclosingElement() + "." + element.getSimpleName();
        }

        private long line(long position) {
            return unit.getLineMap().getLineNumber(position);
        }

        /** The method that a tree stands in; a field's first value belongs to the constructor. */
        private String within() {
            Element inside = null;
            for (TreePath path = getCurrentPath(); path != null; path = path.getParentPath()) {
                Tree.Kind kind = path.getLeaf().getKind();
                if (kind == Tree.Kind.METHOD) return name(trees.getElement(path));
                if (kind == Tree.Kind.CLASS && inside == null) inside = trees.getElement(path);
            }
            return inside + ".<init>";
        }

        private void calls(Element called) {
            String from = within();
            if (called.getEnclosingElement().toString().startsWith("OverSands")) calls.computeIfAbsent(from, f -> new TreeSet<>()).add(name(called));
            else CHECK.holds("rule 4: " + from + " may call " + name(called), LIBRARY.contains(name(called)) || name(called).equals("java.lang.Object.<init>"));
        }

        private void none(int rule, Tree tree) {
            CHECK.holds("rule " + rule + ": there is no " + tree.getKind() + " in line " + line(trees.getSourcePositions().getStartPosition(unit, tree)), false);
        }

        @Override public Void visitClass(ClassTree tree, Void v) {
            classes++;
            Element element = trees.getElement(getCurrentPath());
            Element around = element.getEnclosingElement();
            boolean inside = around.getKind() == ElementKind.CLASS;
            CHECK.holds("rules 1, 2: " + element + " is the one class, or static in it and not public", inside
                ? element.getModifiers().contains(Modifier.STATIC) && !element.getModifiers().contains(Modifier.PUBLIC)
                : element.toString().equals("OverSands"));
            long fields = element.getEnclosedElements().stream()
                .filter(e -> e.getKind() == ElementKind.FIELD && !e.getModifiers().contains(Modifier.STATIC)).count();
            CHECK.holds("rule 11: " + element + " has some twenty fields at most, it has " + fields, fields <= MOST_FIELDS);
            return super.visitClass(tree, v);
        }

        @Override public Void visitVariable(VariableTree tree, Void v) {
            Element element = trees.getElement(getCurrentPath());
            if (element.getModifiers().contains(Modifier.STATIC)) {
                CHECK.holds("rule 5: " + element + " is a constant", element.getModifiers().contains(Modifier.FINAL)
                    && tree.getInitializer() != null && CONSTANTS.contains(element.asType().toString()));
            }
            return super.visitVariable(tree, v);
        }

        @Override public Void visitMethod(MethodTree tree, Void v) {
            String method = name(trees.getElement(getCurrentPath()));
            calls.computeIfAbsent(method, f -> new TreeSet<>());
            SourcePositions places = trees.getSourcePositions();
            long lines = line(places.getEndPosition(unit, tree)) - line(places.getStartPosition(unit, tree)) + 1;
            CHECK.holds("rule 11: " + method + " has some sixty lines at most, it has " + lines, lines <= MOST_LINES);
            CHECK.holds("rule 11: " + method + " takes seven at most", tree.getParameters().size() <= MOST_PARAMETERS);
            return super.visitMethod(tree, v);
        }

        @Override public Void visitMethodInvocation(MethodInvocationTree tree, Void v) {
            calls(trees.getElement(getCurrentPath()));
            return super.visitMethodInvocation(tree, v);
        }

        @Override public Void visitNewClass(NewClassTree tree, Void v) {
            calls(trees.getElement(getCurrentPath()));
            CHECK.holds("rule 2: no class without a name in " + within(), tree.getClassBody() == null);
            CHECK.holds("rule 12: only constructors make objects, not " + within(), within().endsWith(".<init>"));
            return super.visitNewClass(tree, v);
        }

        @Override public Void visitNewArray(NewArrayTree tree, Void v) {
            CHECK.holds("rule 12: only constructors make arrays, not " + within(), within().endsWith(".<init>"));
            return super.visitNewArray(tree, v);
        }

        @Override public Void visitForLoop(ForLoopTree tree, Void v) {
            CHECK.holds("rule 9: a loop in " + within() + " has an end and a counter", tree.getCondition() != null && !tree.getUpdate().isEmpty());
            return super.visitForLoop(tree, v);
        }

        @Override public Void visitWhileLoop(WhileLoopTree tree, Void v) {
            none(9, tree);
            return super.visitWhileLoop(tree, v);
        }

        @Override public Void visitDoWhileLoop(DoWhileLoopTree tree, Void v) {
            none(9, tree);
            return super.visitDoWhileLoop(tree, v);
        }

        @Override public Void visitLambdaExpression(LambdaExpressionTree tree, Void v) {
            none(2, tree);
            return super.visitLambdaExpression(tree, v);
        }

        @Override public Void visitMemberReference(MemberReferenceTree tree, Void v) {
            none(2, tree);
            return super.visitMemberReference(tree, v);
        }

        @Override public Void visitThrow(ThrowTree tree, Void v) {
            none(6, tree);
            return super.visitThrow(tree, v);
        }

        @Override public Void visitTry(TryTree tree, Void v) {
            none(6, tree);
            return super.visitTry(tree, v);
        }

        @Override public Void visitSynchronized(SynchronizedTree tree, Void v) {
            none(6, tree);
            return super.visitSynchronized(tree, v);
        }

        @Override public Void visitAssert(AssertTree tree, Void v) {
            none(6, tree);
            return super.visitAssert(tree, v);
        }

        @Override public Void visitTypeCast(TypeCastTree tree, Void v) {
            none(6, tree);
            return super.visitTypeCast(tree, v);
        }
    }
}
