import com.sun.source.tree.*;
import com.sun.source.util.JavacTask;
import com.sun.source.util.TreePath;
import com.sun.source.util.TreePathScanner;
import com.sun.source.util.Trees;
import java.io.File;
import java.util.HashMap;
import java.util.List;
import java.util.Map;
import java.util.Set;
import javax.lang.model.element.Element;
import javax.lang.model.element.ElementKind;
import javax.lang.model.element.ExecutableElement;
import javax.lang.model.element.Modifier;
import javax.tools.JavaCompiler;
import javax.tools.StandardJavaFileManager;
import javax.tools.ToolProvider;

/** What of LANGUAGE.md can be seen in the source: sizes, depths, the library, where arrays are used. */
public final class RulesTest {
    private static final Set<String> LIBRARY = Set.of("java.lang.Math.max", "java.lang.Math.min",
            "java.lang.Integer.bitCount", "java.lang.String.length", "java.lang.String.charAt");
    private static final Set<String> WITH_ARRAYS = Set.of("Cells", "Table");

    private static final Map<Element, Set<Element>> CALLS = new HashMap<>();

    public static void main(String[] args) throws Exception {
        JavaCompiler compiler = ToolProvider.getSystemJavaCompiler();
        StandardJavaFileManager files = compiler.getStandardFileManager(null, null, null);
        File source = new File("src/main/java/NorthVines.java");
        JavacTask task = (JavacTask) compiler.getTask(null, files, null, List.of("-proc:none"), null, files.getJavaFileObjects(source));
        for (CompilationUnitTree unit : task.parse()) {
            task.analyze();
            new Scan(Trees.instance(task), unit).scan(unit, null);
        }
        int deepest = 0;
        for (Element method : CALLS.keySet()) {
            deepest = Math.max(deepest, depth(method, 1));
        }
        System.out.println("deepest chain of calls: " + deepest);
        Check.due("calls at most eight deep", deepest <= 8, true);
        Check.end("RulesTest");
    }

    /** A chain of thirty would be recursion, of which the program has none. */
    private static int depth(Element method, int level) {
        int deepest = level;
        if (level < 30) {
            for (Element called : CALLS.getOrDefault(method, Set.of())) {
                deepest = Math.max(deepest, depth(called, level + 1));
            }
        }
        return deepest;
    }

    private static final class Scan extends TreePathScanner<Void, Void> {
        private final Trees trees;
        private final CompilationUnitTree unit;
        private int classes;

        Scan(Trees trees, CompilationUnitTree unit) {
            this.trees = trees;
            this.unit = unit;
        }

        private long line(Tree tree, boolean end) {
            long at = end ? trees.getSourcePositions().getEndPosition(unit, tree) : trees.getSourcePositions().getStartPosition(unit, tree);
            return unit.getLineMap().getLineNumber(at);
        }

        private void never(String what, Tree tree) {
            Check.due(what + " in line " + line(tree, false), true, false);
        }

        private MethodTree method() {
            for (TreePath path = getCurrentPath(); path != null; path = path.getParentPath()) {
                if (path.getLeaf() instanceof MethodTree method) {
                    return method;
                }
            }
            return null;
        }

        private String owner() {
            for (TreePath path = getCurrentPath(); path != null; path = path.getParentPath()) {
                if (path.getLeaf() instanceof ClassTree type) {
                    return type.getSimpleName().toString();
                }
            }
            return "";
        }

        @Override
        public Void visitCompilationUnit(CompilationUnitTree node, Void v) {
            super.visitCompilationUnit(node, v);
            Check.due("no package", node.getPackageName() == null, true);
            Check.due("classes, at most twelve: " + classes, classes <= 12, true);
            for (ImportTree used : node.getImports()) {
                Check.due("import " + used, used.getQualifiedIdentifier().toString().equals("java.util.NoSuchElementException"), true);
            }
            return null;
        }

        @Override
        public Void visitClass(ClassTree node, Void v) {
            classes++;
            int fields = 0;
            for (Tree member : node.getMembers()) {
                if (member instanceof VariableTree field) {
                    Set<Modifier> flags = field.getModifiers().getFlags();
                    boolean isStatic = flags.contains(Modifier.STATIC);
                    Check.due("a static field is final: " + field, isStatic && !flags.contains(Modifier.FINAL), false);
                    fields += isStatic ? 0 : 1;
                } else if (member instanceof BlockTree) {
                    never("a block", member);
                }
            }
            Check.due("fields of " + node.getSimpleName() + ", at most twenty: " + fields, fields <= 20, true);
            return super.visitClass(node, v);
        }

        @Override
        public Void visitMethod(MethodTree node, Void v) {
            long lines = line(node, true) - line(node, false) + 1;
            Check.due(node.getName() + " has " + lines + " lines", lines <= 60, true);
            Check.due(node.getName() + " has at most seven parameters", node.getParameters().size() <= 7, true);
            CALLS.computeIfAbsent(trees.getElement(getCurrentPath()), e -> new java.util.HashSet<>());
            return super.visitMethod(node, v);
        }

        @Override
        public Void visitMethodInvocation(MethodInvocationTree node, Void v) {
            Element called = trees.getElement(new TreePath(getCurrentPath(), node.getMethodSelect()));
            called(called, node);
            return super.visitMethodInvocation(node, v);
        }

        private void called(Element called, Tree node) {
            Element type = called.getEnclosingElement();
            boolean own = type.toString().startsWith("NorthVines");
            boolean isObject = called.getKind() == ElementKind.CONSTRUCTOR && type.toString().equals("java.lang.Object");
            String name = type + "." + called.getSimpleName();
            Check.due("of the library: " + name, own || isObject || LIBRARY.contains(name), true);
            MethodTree method = method();
            if (method != null && !isObject && called instanceof ExecutableElement) {
                Element from = trees.getElement(trees.getPath(unit, method));
                CALLS.computeIfAbsent(from, e -> new java.util.HashSet<>()).add(called);
            }
        }

        @Override
        public Void visitNewClass(NewClassTree node, Void v) {
            boolean thrown = getCurrentPath().getParentPath().getLeaf() instanceof ThrowTree;
            boolean made = method() == null || method().getName().contentEquals("<init>");
            Check.due("objects are made in constructors alone, line " + line(node, false), thrown || made, true);
            return super.visitNewClass(node, v);
        }

        @Override
        public Void visitNewArray(NewArrayTree node, Void v) {
            boolean made = method() != null && method().getName().contentEquals("<init>");
            Check.due("arrays are made in constructors alone, line " + line(node, false), made && WITH_ARRAYS.contains(owner()), true);
            return super.visitNewArray(node, v);
        }

        @Override
        public Void visitArrayAccess(ArrayAccessTree node, Void v) {
            Check.due("arrays are used in Cells and Table alone, line " + line(node, false), WITH_ARRAYS.contains(owner()), true);
            return super.visitArrayAccess(node, v);
        }

        @Override
        public Void visitThrow(ThrowTree node, Void v) {
            Check.due("led alone throws, line " + line(node, false), method().getName().contentEquals("led"), true);
            return super.visitThrow(node, v);
        }

        @Override
        public Void visitLambdaExpression(LambdaExpressionTree node, Void v) {
            never("a lambda", node);
            return null;
        }

        @Override
        public Void visitMemberReference(MemberReferenceTree node, Void v) {
            never("a method reference", node);
            return null;
        }

        @Override
        public Void visitTry(TryTree node, Void v) {
            never("try", node);
            return null;
        }

        @Override
        public Void visitSynchronized(SynchronizedTree node, Void v) {
            never("synchronized", node);
            return null;
        }

        @Override
        public Void visitAssert(AssertTree node, Void v) {
            never("assert", node);
            return null;
        }

        @Override
        public Void visitTypeCast(TypeCastTree node, Void v) {
            never("a cast", node);
            return null;
        }

        @Override
        public Void visitBinary(BinaryTree node, Void v) {
            if (node.getKind() == Tree.Kind.DIVIDE || node.getKind() == Tree.Kind.REMAINDER) {
                divisor(node.getRightOperand(), Set.of("SEEDS", "rows", "b"));
            }
            boolean isNumber = trees.getTypeMirror(getCurrentPath()).getKind().isPrimitive();
            Check.due("numbers and conditions alone, no text joined by +: " + node, isNumber, true);
            return super.visitBinary(node, v);
        }

        @Override
        public Void visitCompoundAssignment(CompoundAssignmentTree node, Void v) {
            if (node.getKind() == Tree.Kind.DIVIDE_ASSIGNMENT || node.getKind() == Tree.Kind.REMAINDER_ASSIGNMENT) {
                divisor(node.getExpression(), Set.of("a"));
            }
            return super.visitCompoundAssignment(node, v);
        }

        /** One that is written out and isn't 0, or one of those that the program looks at just ahead. */
        private void divisor(ExpressionTree by, Set<String> lookedAt) {
            boolean written = by instanceof LiteralTree && !by.toString().equals("0");
            Check.due("a divisor that is looked at: " + by, written || lookedAt.contains(by.toString()), true);
        }

        @Override
        public Void visitInstanceOf(InstanceOfTree node, Void v) {
            never("instanceof", node);
            return null;
        }

        @Override
        public Void visitWhileLoop(WhileLoopTree node, Void v) {
            String condition = node.getCondition().toString();
            Check.due("a while with an end that can be seen: " + condition, condition.contains("at < end") || condition.contains("next < end"), true);
            return super.visitWhileLoop(node, v);
        }

        @Override
        public Void visitDoWhileLoop(DoWhileLoopTree node, Void v) {
            never("do", node);
            return null;
        }

        @Override
        public Void visitForLoop(ForLoopTree node, Void v) {
            Check.due("a for with a bound and a step, line " + line(node, false), node.getCondition() != null && node.getUpdate().size() == 1, true);
            return super.visitForLoop(node, v);
        }
    }
}
