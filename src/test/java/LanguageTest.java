import com.sun.source.tree.ArrayAccessTree;
import com.sun.source.tree.AssertTree;
import com.sun.source.tree.AssignmentTree;
import com.sun.source.tree.ClassTree;
import com.sun.source.tree.CompilationUnitTree;
import com.sun.source.tree.CompoundAssignmentTree;
import com.sun.source.tree.DoWhileLoopTree;
import com.sun.source.tree.EnhancedForLoopTree;
import com.sun.source.tree.ForLoopTree;
import com.sun.source.tree.ImportTree;
import com.sun.source.tree.LambdaExpressionTree;
import com.sun.source.tree.MemberReferenceTree;
import com.sun.source.tree.MethodInvocationTree;
import com.sun.source.tree.MethodTree;
import com.sun.source.tree.NewArrayTree;
import com.sun.source.tree.NewClassTree;
import com.sun.source.tree.SynchronizedTree;
import com.sun.source.tree.ThrowTree;
import com.sun.source.tree.Tree;
import com.sun.source.tree.TryTree;
import com.sun.source.tree.UnaryTree;
import com.sun.source.tree.VariableTree;
import com.sun.source.tree.WhileLoopTree;
import com.sun.source.util.JavacTask;
import com.sun.source.util.TreePath;
import com.sun.source.util.TreePathScanner;
import com.sun.source.util.Trees;
import java.nio.file.Path;
import java.util.HashMap;
import java.util.HashSet;
import java.util.LinkedHashSet;
import java.util.List;
import java.util.Map;
import java.util.Set;
import javax.lang.model.element.Element;
import javax.lang.model.element.ElementKind;
import javax.lang.model.element.ExecutableElement;
import javax.lang.model.element.Modifier;
import javax.lang.model.element.TypeElement;
import javax.tools.JavaCompiler;
import javax.tools.StandardJavaFileManager;
import javax.tools.ToolProvider;

/**
 * The rules of LANGUAGE.md that a reader of the source can count, each named by its number.
 * It asks for less than the page leaves where the class needs less: no exceptions, no recursion.
 */
public final class LanguageTest {
    private static final Path SOURCE = Path.of("src/main/java/PathExplorer.java");
    private static final Set<String> FACE = Set.of("emit", "method", "handler", "range", "clear", "run", "value",
        "explore", "test", "event", "covered", "complete", "count");
    private static final Set<String> LIBRARY = Set.of("java.lang.Math.max");
    private static final Set<String> NUMBERS = Set.of("int", "long", "short", "byte", "char", "boolean");
    private static final Set<String> CONSTANTS =
        Set.of("int", "long", "boolean", "char", "java.lang.String", "int[]", "long[]", "char[]", "byte[]");

    private static final Map<Element, Set<Element>> calls = new HashMap<>();
    private static int classes = 0;

    public static void main(String[] args) throws Exception {
        JavaCompiler compiler = ToolProvider.getSystemJavaCompiler();
        try (StandardJavaFileManager files = compiler.getStandardFileManager(null, null, null)) {
            JavacTask task = (JavacTask) compiler.getTask(
                null, files, null, List.of("-proc:none"), null, files.getJavaFileObjects(SOURCE));
            Iterable<? extends CompilationUnitTree> units = task.parse();
            task.analyze();
            for (CompilationUnitTree unit : units) {
                holds(1, "there is no package line", unit.getPackage() == null);
                holds(1, "there is one class outside", unit.getTypeDecls().size() == 1);
                new Reader(Trees.instance(task), unit).scan(unit, null);
            }
        }
        holds(11, classes + " classes", classes <= 12);
        for (Element method : calls.keySet()) {
            int depth = depthOf(method, new LinkedHashSet<>());
            holds(8, method + " does not call itself", depth < Integer.MAX_VALUE);
            holds(11, method + " has " + depth + " calls open at once", depth <= 8);
        }
        Check.end();
    }

    private static void holds(int rule, String what, boolean holds) {
        Check.due("LANGUAGE.md, rule " + rule + ": " + what, holds, true);
    }

    /** How many calls stand open at once below and with this one. */
    private static int depthOf(Element method, Set<Element> open) {
        if (!open.add(method)) {
            return Integer.MAX_VALUE;
        }
        int deepest = 0;
        for (Element called : calls.getOrDefault(method, Set.of())) {
            deepest = Math.max(deepest, depthOf(called, open));
        }
        open.remove(method);
        return deepest == Integer.MAX_VALUE ? deepest : deepest + 1;
    }

    private static final class Reader extends TreePathScanner<Void, Void> {
        private final Trees trees;
        private final CompilationUnitTree unit;
        private Element method = null;
        private int loops = 0;

        Reader(Trees trees, CompilationUnitTree unit) {
            this.trees = trees;
            this.unit = unit;
        }

        private Element elementOf(Tree tree) {
            return trees.getElement(new TreePath(getCurrentPath(), tree));
        }

        private static boolean isOwn(Element element) {
            for (Element e = element; e != null; e = e.getEnclosingElement()) {
                if (e.getSimpleName().contentEquals("PathExplorer")) {
                    return true;
                }
            }
            return false;
        }

        private Void none(int rule, String what) {
            holds(rule, "there is " + what, false);
            return null;
        }

        @Override
        public Void visitImport(ImportTree tree, Void nothing) {
            return none(4, "an import");
        }

        @Override
        public Void visitClass(ClassTree tree, Void nothing) {
            classes++;
            String name = tree.getSimpleName().toString();
            Set<Modifier> modifiers = tree.getModifiers().getFlags();
            boolean outside = getCurrentPath().getParentPath().getLeaf() == unit;
            holds(1, name + " is static and not public",
                outside || modifiers.contains(Modifier.STATIC) && !modifiers.contains(Modifier.PUBLIC)
                    && !modifiers.contains(Modifier.PROTECTED));
            int fields = 0;
            for (Tree member : tree.getMembers()) {
                if (member instanceof VariableTree field && !field.getModifiers().getFlags().contains(Modifier.STATIC)) {
                    fields++;
                }
                holds(5, name + " has no block", member.getKind() != Tree.Kind.BLOCK);
            }
            holds(11, name + " has " + fields + " fields", fields <= 20);
            return super.visitClass(tree, nothing);
        }

        @Override
        public Void visitMethod(MethodTree tree, Void nothing) {
            method = trees.getElement(getCurrentPath());
            calls.computeIfAbsent(method, key -> new HashSet<>());
            String name = tree.getName().toString();
            boolean open = tree.getModifiers().getFlags().contains(Modifier.PUBLIC);
            holds(1, name + " bears a name of the face only there", open || !FACE.contains(name));
            holds(11, name + " takes at most seven", tree.getParameters().size() <= 7);
            long first = trees.getSourcePositions().getStartPosition(unit, tree);
            long last = trees.getSourcePositions().getEndPosition(unit, tree);
            if (last > first) {
                long lines = unit.getLineMap().getLineNumber(last) - unit.getLineMap().getLineNumber(first) + 1;
                holds(11, name + " has " + lines + " lines", lines <= 60);
            }
            super.visitMethod(tree, nothing);
            method = null;
            return null;
        }

        @Override
        public Void visitVariable(VariableTree tree, Void nothing) {
            Element element = trees.getElement(getCurrentPath());
            String type = element.asType().toString();
            String plain = type.endsWith("[]") ? type.substring(0, type.length() - 2) : type;
            holds(3, tree.getName() + " is of the type " + type, NUMBERS.contains(plain) || type.startsWith("PathExplorer."));
            if (element.getKind() == ElementKind.FIELD && element.getModifiers().contains(Modifier.STATIC)) {
                holds(5, tree.getName() + " is final", element.getModifiers().contains(Modifier.FINAL));
                holds(5, tree.getName() + " is a constant", CONSTANTS.contains(type) && tree.getInitializer() != null);
                holds(5, tree.getName() + " is written out", !type.endsWith("[]")
                    || tree.getInitializer() instanceof NewArrayTree row && row.getInitializers() != null);
            }
            return super.visitVariable(tree, nothing);
        }

        @Override
        public Void visitMethodInvocation(MethodInvocationTree tree, Void nothing) {
            called(elementOf(tree.getMethodSelect()), tree);
            return super.visitMethodInvocation(tree, nothing);
        }

        @Override
        public Void visitNewClass(NewClassTree tree, Void nothing) {
            called(trees.getElement(getCurrentPath()), tree);
            holds(12, tree + " is made outside loops", loops == 0);
            holds(2, tree + " has no body", tree.getClassBody() == null);
            return super.visitNewClass(tree, nothing);
        }

        private void called(Element callee, Tree tree) {
            if (isOwn(callee)) {
                if (method != null) {
                    calls.computeIfAbsent(method, key -> new HashSet<>()).add(callee);
                }
                return;
            }
            String owner = ((TypeElement) callee.getEnclosingElement()).getQualifiedName().toString();
            boolean ofObject = owner.equals("java.lang.Object") && ((ExecutableElement) callee).getKind()
                == ElementKind.CONSTRUCTOR;
            holds(4, tree + " is of the library", ofObject || LIBRARY.contains(owner + "." + callee.getSimpleName()));
        }

        @Override
        public Void visitNewArray(NewArrayTree tree, Void nothing) {
            holds(12, tree + " is made in a constructor or outside methods",
                method == null || method.getKind() == ElementKind.CONSTRUCTOR);
            return super.visitNewArray(tree, nothing);
        }

        private void unchanged(Tree target) {
            if (target instanceof ArrayAccessTree access) {
                Element row = elementOf(access.getExpression());
                holds(5, access + " is no constant", row != null && !row.getModifiers().contains(Modifier.STATIC));
            }
        }

        @Override
        public Void visitAssignment(AssignmentTree tree, Void nothing) {
            unchanged(tree.getVariable());
            return super.visitAssignment(tree, nothing);
        }

        @Override
        public Void visitCompoundAssignment(CompoundAssignmentTree tree, Void nothing) {
            unchanged(tree.getVariable());
            return super.visitCompoundAssignment(tree, nothing);
        }

        @Override
        public Void visitUnary(UnaryTree tree, Void nothing) {
            unchanged(tree.getExpression());
            return super.visitUnary(tree, nothing);
        }

        @Override
        public Void visitForLoop(ForLoopTree tree, Void nothing) {
            holds(9, "a for has a bound", tree.getCondition() != null && !tree.getUpdate().isEmpty());
            loops++;
            super.visitForLoop(tree, nothing);
            loops--;
            return null;
        }

        @Override
        public Void visitWhileLoop(WhileLoopTree tree, Void nothing) {
            holds(9, "a while compares a counter", tree.getCondition().toString().contains("<"));
            loops++;
            super.visitWhileLoop(tree, nothing);
            loops--;
            return null;
        }

        @Override
        public Void visitDoWhileLoop(DoWhileLoopTree tree, Void nothing) {
            return none(9, "a do, for which this test counts nothing");
        }

        @Override
        public Void visitEnhancedForLoop(EnhancedForLoopTree tree, Void nothing) {
            loops++;
            super.visitEnhancedForLoop(tree, nothing);
            loops--;
            return null;
        }

        @Override
        public Void visitLambdaExpression(LambdaExpressionTree tree, Void nothing) {
            return none(2, "a lambda");
        }

        @Override
        public Void visitMemberReference(MemberReferenceTree tree, Void nothing) {
            return none(2, "a method reference");
        }

        @Override
        public Void visitThrow(ThrowTree tree, Void nothing) {
            return none(6, "a throw, and the document asks for none");
        }

        @Override
        public Void visitTry(TryTree tree, Void nothing) {
            return none(6, "a try");
        }

        @Override
        public Void visitSynchronized(SynchronizedTree tree, Void nothing) {
            return none(6, "a synchronized");
        }

        @Override
        public Void visitAssert(AssertTree tree, Void nothing) {
            return none(6, "an assert");
        }
    }
}
