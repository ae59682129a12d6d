import com.sun.source.tree.AssertTree;
import com.sun.source.tree.ClassTree;
import com.sun.source.tree.CompilationUnitTree;
import com.sun.source.tree.DoWhileLoopTree;
import com.sun.source.tree.ExpressionTree;
import com.sun.source.tree.ForLoopTree;
import com.sun.source.tree.LambdaExpressionTree;
import com.sun.source.tree.MemberReferenceTree;
import com.sun.source.tree.MethodInvocationTree;
import com.sun.source.tree.MethodTree;
import com.sun.source.tree.NewClassTree;
import com.sun.source.tree.SynchronizedTree;
import com.sun.source.tree.ThrowTree;
import com.sun.source.tree.Tree;
import com.sun.source.tree.TryTree;
import com.sun.source.tree.TypeCastTree;
import com.sun.source.tree.VariableTree;
import com.sun.source.tree.WhileLoopTree;
import com.sun.source.util.JavacTask;
import com.sun.source.util.TreePathScanner;
import com.sun.source.util.Trees;
import java.io.File;
import java.io.IOException;
import java.util.LinkedHashMap;
import java.util.LinkedHashSet;
import java.util.List;
import java.util.Map;
import java.util.Set;
import java.util.regex.Pattern;
import javax.lang.model.element.Element;
import javax.lang.model.element.ElementKind;
import javax.lang.model.element.Modifier;
import javax.lang.model.type.ArrayType;
import javax.lang.model.type.TypeKind;
import javax.lang.model.type.TypeMirror;
import javax.tools.JavaCompiler;
import javax.tools.StandardJavaFileManager;
import javax.tools.ToolProvider;

/**
 * What the compiler's own tree of the class tells of rules 2 to 6, 8, 9, 11 and 12 of LANGUAGE.md. Of the library only
 * the part that the class uses is taken here: who needs more of rules 3 and 4 adds it.
 */
public final class RulesTest {
    private static final String SOURCE = "src/main/java/LentViews.java";
    private static final int MOST_DEEP = 8;
    private static final int MOST_LINES = 60;
    private static final int MOST_FIELDS = 20;
    private static final int MOST_CLASSES = 12;
    private static final int MOST_PARAMETERS = 7;
    private static final Pattern LIBRARY = Pattern.compile(
        "java\\.lang\\.System\\.arraycopy|java\\.util\\.Arrays\\.(fill|copyOf|copyOfRange)"
        + "|java\\.lang\\.(Math|Integer|Long)\\.(min|max|abs|compare|bitCount|floorDiv|floorMod)"
        // The constructor that javac puts ahead of a class's own.
        + "|java\\.lang\\.Object\\.<init>");

    public static void main(String[] args) throws IOException {
        JavaCompiler compiler = ToolProvider.getSystemJavaCompiler();
        try (StandardJavaFileManager files = compiler.getStandardFileManager(null, null, null)) {
            JavacTask task = (JavacTask) compiler.getTask(null, files, null, List.of("-proc:none"), null, files.getJavaFileObjects(new File(SOURCE)));
            Scanner scanner = new Scanner(Trees.instance(task));
            for (CompilationUnitTree unit : task.parse()) {
                task.analyze();
                scanner.scan(unit, null);
            }
            scanner.lookAtCalls();
            scanner.lookAtClasses();
        }
        Due.end();
    }

    private static final class Scanner extends TreePathScanner<Void, Void> {
        private final Trees trees;
        /** Of each method of the file what it calls; the library's methods call nothing here. */
        private final Map<Element, Set<Element>> calls = new LinkedHashMap<>();
        private final Map<Element, Integer> fields = new LinkedHashMap<>();
        private Element method;

        Scanner(Trees trees) {
            this.trees = trees;
        }

        private void rule(int number, Tree tree, boolean kept) {
            CompilationUnitTree unit = getCurrentPath().getCompilationUnit();
            long line = unit.getLineMap().getLineNumber(trees.getSourcePositions().getStartPosition(unit, tree));
            Due.isTrue("rule " + number + " is kept at line " + line, kept);
        }

        private Element here() {
            return trees.getElement(getCurrentPath());
        }

        @Override
        public Void visitClass(ClassTree tree, Void none) {
            Element type = here();
            fields.put(type, 0);
            Element around = type.getEnclosingElement();
            boolean outermost = around.getKind() == ElementKind.PACKAGE;
            rule(2, tree, outermost || type.getModifiers().contains(Modifier.STATIC) && around.getKind().isClass());
            return super.visitClass(tree, none);
        }

        @Override
        public Void visitMethod(MethodTree tree, Void none) {
            method = here();
            calls.put(method, new LinkedHashSet<>());
            CompilationUnitTree unit = getCurrentPath().getCompilationUnit();
            long first = unit.getLineMap().getLineNumber(Math.max(0, trees.getSourcePositions().getStartPosition(unit, tree)));
            long last = unit.getLineMap().getLineNumber(Math.max(0, trees.getSourcePositions().getEndPosition(unit, tree)));
            rule(11, tree, last - first < MOST_LINES);
            rule(11, tree, tree.getParameters().size() <= MOST_PARAMETERS);
            super.visitMethod(tree, none);
            method = null;
            return null;
        }

        @Override
        public Void visitVariable(VariableTree tree, Void none) {
            Element variable = here();
            rule(3, tree, isAllowed(variable.asType()));
            if (variable.getKind() == ElementKind.FIELD) {
                boolean isStatic = variable.getModifiers().contains(Modifier.STATIC);
                rule(5, tree, !isStatic || variable.getModifiers().contains(Modifier.FINAL) && variable.asType().getKind().isPrimitive());
                fields.merge(variable.getEnclosingElement(), isStatic ? 0 : 1, Integer::sum);
            }
            return super.visitVariable(tree, none);
        }

        private boolean isAllowed(TypeMirror type) {
            if (type.getKind() == TypeKind.ARRAY) {
                TypeMirror element = ((ArrayType) type).getComponentType();
                return element.getKind() != TypeKind.ARRAY && isAllowed(element);
            }
            return type.getKind().isPrimitive() || type.toString().startsWith("LentViews");
        }

        @Override
        public Void visitMethodInvocation(MethodInvocationTree tree, Void none) {
            called(tree);
            return super.visitMethodInvocation(tree, none);
        }

        @Override
        public Void visitNewClass(NewClassTree tree, Void none) {
            rule(2, tree, tree.getClassBody() == null);
            // A field's own object is made by the constructor; what it calls in turn is looked at there.
            called(tree);
            // Stricter than rule 12: rows are made with the object, and no call makes one.
            rule(12, tree, method == null || method.getKind() == ElementKind.CONSTRUCTOR);
            return super.visitNewClass(tree, none);
        }

        private void called(Tree tree) {
            Element callee = here();
            boolean own = isOwn(callee);
            rule(4, tree, own || LIBRARY.matcher(callee.getEnclosingElement() + "." + callee.getSimpleName()).matches());
            if (method != null) {
                calls.get(method).add(callee);
            }
        }

        private static boolean isOwn(Element element) {
            return element.getEnclosingElement().toString().startsWith("LentViews");
        }

        @Override
        public Void visitForLoop(ForLoopTree tree, Void none) {
            rule(9, tree, hasEnd(tree.getCondition()));
            return super.visitForLoop(tree, none);
        }

        @Override
        public Void visitWhileLoop(WhileLoopTree tree, Void none) {
            rule(9, tree, hasEnd(tree.getCondition()));
            return super.visitWhileLoop(tree, none);
        }

        @Override
        public Void visitDoWhileLoop(DoWhileLoopTree tree, Void none) {
            rule(9, tree, hasEnd(tree.getCondition()));
            return super.visitDoWhileLoop(tree, none);
        }

        /** A counter against a bound stands in the condition itself. */
        private static boolean hasEnd(ExpressionTree condition) {
            return condition != null && condition.toString().contains("<");
        }

        @Override
        public Void visitThrow(ThrowTree tree, Void none) {
            rule(6, tree, false);
            return super.visitThrow(tree, none);
        }

        @Override
        public Void visitTry(TryTree tree, Void none) {
            rule(6, tree, false);
            return super.visitTry(tree, none);
        }

        @Override
        public Void visitSynchronized(SynchronizedTree tree, Void none) {
            rule(6, tree, false);
            return super.visitSynchronized(tree, none);
        }

        @Override
        public Void visitAssert(AssertTree tree, Void none) {
            rule(6, tree, false);
            return super.visitAssert(tree, none);
        }

        @Override
        public Void visitTypeCast(TypeCastTree tree, Void none) {
            rule(6, tree, tree.getType().toString().matches("int|long|char|byte|short"));
            return super.visitTypeCast(tree, none);
        }

        @Override
        public Void visitLambdaExpression(LambdaExpressionTree tree, Void none) {
            rule(2, tree, false);
            return super.visitLambdaExpression(tree, none);
        }

        @Override
        public Void visitMemberReference(MemberReferenceTree tree, Void none) {
            rule(2, tree, false);
            return super.visitMemberReference(tree, none);
        }

        void lookAtCalls() {
            for (Element each : calls.keySet()) {
                int deep = depth(each, 1);
                Due.isTrue("rules 8 and 11: " + each + " goes " + deep + " deep, the library's calls counted", deep <= MOST_DEEP);
            }
        }

        /** How many calls stand open at most; a method that comes back to itself is as deep as one likes. */
        private int depth(Element each, int open) {
            int deepest = 0;
            if (open <= 3 * MOST_DEEP) {
                for (Element callee : calls.getOrDefault(each, Set.of())) {
                    deepest = Math.max(deepest, isHidden(callee) ? 0 : depth(callee, open + 1));
                }
            }
            return 1 + deepest;
        }

        private static boolean isHidden(Element callee) {
            return callee.getEnclosingElement().toString().equals("java.lang.Object");
        }

        void lookAtClasses() {
            Due.isTrue("rule 11: some twelve classes, " + fields.size(), fields.size() <= MOST_CLASSES);
            for (Map.Entry<Element, Integer> each : fields.entrySet()) {
                Due.isTrue("rule 11: some twenty fields, " + each, each.getValue() <= MOST_FIELDS);
            }
        }
    }
}
