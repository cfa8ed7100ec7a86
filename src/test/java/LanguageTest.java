import com.sun.source.tree.*;
import com.sun.source.util.JavacTask;
import com.sun.source.util.TreePath;
import com.sun.source.util.TreePathScanner;
import com.sun.source.util.Trees;
import java.io.IOException;
import java.nio.file.Path;
import java.util.HashMap;
import java.util.LinkedHashSet;
import java.util.List;
import java.util.Map;
import java.util.Set;
import javax.lang.model.element.Element;
import javax.lang.model.element.ElementKind;
import javax.lang.model.element.ExecutableElement;
import javax.lang.model.element.Modifier;
import javax.lang.model.element.TypeElement;
import javax.lang.model.element.VariableElement;
import javax.lang.model.type.TypeMirror;
import javax.tools.JavaCompiler;
import javax.tools.StandardJavaFileManager;
import javax.tools.ToolProvider;

/** LANGUAGE.md, as far as the compiler's tree of the source tells it; each look names its rule. Takes the source's path. */
public final class LanguageTest {
    private static final int MOST_PARAMETERS = 7, MOST_LINES = 60, MOST_DEEP = 8, MOST_CLASSES = 12, MOST_FIELDS = 20;

    public static void main(String[] args) throws IOException {
        Path path = Path.of(args.length > 0 ? args[0] : "src/main/java/LoanHouse.java");
        JavaCompiler compiler = ToolProvider.getSystemJavaCompiler();
        try (StandardJavaFileManager files = compiler.getStandardFileManager(null, null, null)) {
            JavacTask task = (JavacTask) compiler.getTask(null, files, null, List.of("-proc:none"), null, files.getJavaFileObjects(path));
            CompilationUnitTree unit = task.parse().iterator().next();
            task.analyze();
            Looker looker = new Looker(Trees.instance(task), unit);
            looker.scan(unit, null);
            looker.lookAtCalls();
        }
        Script.end();
    }

    private static void rule(int number, String what, boolean holds) {
        Script.due("rule " + number + ", " + what, holds ? 1 : 0, 1);
    }

    private static final class Looker extends TreePathScanner<Void, Void> {
        private static final Set<String> LIBRARY_CLASSES = Set.of("java.lang.String", "java.lang.StringBuilder", "java.util.ArrayList", "java.util.List",
            "java.lang.Integer", "java.lang.Long", "java.lang.Math", "java.lang.System", "java.util.Arrays", "java.lang.Object");
        private static final Map<String, Set<String>> LIBRARY = Map.of(
            "java.lang.String", Set.of("length", "charAt", "isEmpty", "equals", "indexOf", "substring", "toCharArray"),
            "java.lang.StringBuilder", Set.of("append", "charAt", "setCharAt", "setLength", "deleteCharAt", "reverse", "length", "toString"),
            "java.util.ArrayList", Set.of("add", "get", "set", "remove", "size", "isEmpty", "clear"),
            "java.util.List", Set.of("add", "get", "set", "remove", "size", "isEmpty", "clear", "of"),
            "java.lang.System", Set.of("arraycopy"),
            "java.util.Arrays", Set.of("copyOf", "copyOfRange", "fill"));

        private final Trees trees;
        private final CompilationUnitTree unit;
        private final Map<Element, Set<Element>> calls = new HashMap<>();
        private int classes;

        Looker(Trees trees, CompilationUnitTree unit) {
            this.trees = trees;
            this.unit = unit;
        }

        private String where(Tree tree) {
            long start = trees.getSourcePositions().getStartPosition(unit, tree);
            return "line " + unit.getLineMap().getLineNumber(start);
        }

        private void never(int number, String what, Tree tree) {
            rule(number, what + " at " + where(tree), false);
        }

        private Element element(Tree tree) {
            return trees.getElement(TreePath.getPath(unit, tree));
        }

        private static boolean isOwn(Element element) {
            Element outermost = element;
            while (outermost.getEnclosingElement() != null && outermost.getEnclosingElement().getKind() != ElementKind.PACKAGE) {
                outermost = outermost.getEnclosingElement();
            }
            return outermost.getSimpleName().contentEquals("LoanHouse");
        }

        @Override public Void visitImport(ImportTree tree, Void v) {
            rule(4, "an import is of ArrayList, List, Iterator or Arrays: " + tree, tree.toString().matches("(?s)import java\\.util\\.(ArrayList|List|Iterator|Arrays);.*"));
            return super.visitImport(tree, v);
        }

        @Override public Void visitPackage(PackageTree tree, Void v) {
            never(1, "a package line", tree);
            return super.visitPackage(tree, v);
        }

        @Override public Void visitClass(ClassTree tree, Void v) {
            classes++;
            TypeElement type = (TypeElement) element(tree);
            boolean outermost = type.getSimpleName().contentEquals("LoanHouse");
            rule(2, tree.getSimpleName() + " is static inside LoanHouse", outermost
                || type.getModifiers().contains(Modifier.STATIC) && type.getEnclosingElement().getSimpleName().contentEquals("LoanHouse"));
            long fields = tree.getMembers().stream().filter(m -> m instanceof VariableTree f && !f.getModifiers().getFlags().contains(Modifier.STATIC)).count();
            rule(11, tree.getSimpleName() + " has some twenty fields at most (" + fields + ")", fields <= MOST_FIELDS);
            return super.visitClass(tree, v);
        }

        @Override public Void visitMethod(MethodTree tree, Void v) {
            String name = tree.getName().toString();
            LineMap lines = unit.getLineMap();
            long first = lines.getLineNumber(trees.getSourcePositions().getStartPosition(unit, tree));
            long last = lines.getLineNumber(trees.getSourcePositions().getEndPosition(unit, tree));
            rule(11, name + " takes seven parameters at most", tree.getParameters().size() <= MOST_PARAMETERS);
            rule(11, name + " has some sixty lines at most (" + (last - first + 1) + ")", last - first + 1 <= MOST_LINES);
            rule(6, name + " declares no exception", tree.getThrows().isEmpty());
            rule(6, name + " is not equals, hashCode or toString", !Set.of("equals", "hashCode", "toString").contains(name));
            return super.visitMethod(tree, v);
        }

        @Override public Void visitVariable(VariableTree tree, Void v) {
            VariableElement variable = (VariableElement) element(tree);
            rule(3, tree.getName() + " has a type that is allowed: " + variable.asType(), isAllowed(variable.asType()));
            if (variable.getModifiers().contains(Modifier.STATIC)) {
                rule(5, tree.getName() + " is final", variable.getModifiers().contains(Modifier.FINAL));
                rule(5, tree.getName() + " is a constant or an array of numbers", variable.getConstantValue() != null
                    || variable.asType().toString().matches("(int|long|char|byte)\\[\\]") && tree.getInitializer() instanceof NewArrayTree a && a.getDimensions().isEmpty());
            }
            return super.visitVariable(tree, v);
        }

        private static boolean isAllowed(TypeMirror type) {
            String name = type.toString();
            return name.matches("(int|long|short|byte|char|boolean|double|float)(\\[\\]){0,2}") || name.matches("LoanHouse(\\.\\w+)*(\\[\\])?")
                || name.matches("java\\.lang\\.(String|StringBuilder|Integer)") || name.matches("java\\.util\\.(Array)?List<(LoanHouse\\.\\w+|java\\.lang\\.Integer)>");
        }

        @Override public Void visitMethodInvocation(MethodInvocationTree tree, Void v) {
            call(tree, (ExecutableElement) element(tree.getMethodSelect()));
            return super.visitMethodInvocation(tree, v);
        }

        @Override public Void visitNewClass(NewClassTree tree, Void v) {
            rule(2, "no class without a name at " + where(tree), tree.getClassBody() == null);
            rule(12, "nothing is made in a loop at " + where(tree), !isIn(Set.of(Tree.Kind.FOR_LOOP, Tree.Kind.WHILE_LOOP, Tree.Kind.DO_WHILE_LOOP, Tree.Kind.ENHANCED_FOR_LOOP)));
            call(tree, (ExecutableElement) element(tree));
            return super.visitNewClass(tree, v);
        }

        private boolean isIn(Set<Tree.Kind> kinds) {
            for (TreePath path = getCurrentPath(); path != null; path = path.getParentPath()) {
                if (kinds.contains(path.getLeaf().getKind())) {
                    return true;
                }
            }
            return false;
        }

        private void call(Tree tree, ExecutableElement called) {
            TypeElement owner = (TypeElement) called.getEnclosingElement();
            if (!isOwn(called)) {
                rule(4, owner + "." + called.getSimpleName() + " is allowed at " + where(tree), isAllowed(owner.toString(), called.getSimpleName().toString()));
            }
            for (Element caller : callers()) {
                calls.computeIfAbsent(caller, c -> new LinkedHashSet<>()).add(called);
            }
        }

        private static boolean isAllowed(String owner, String name) {
            if (Set.of("java.lang.Math", "java.lang.Integer", "java.lang.Long").contains(owner)) {
                return !name.endsWith("Exact");
            }
            return name.equals("<init>") ? LIBRARY_CLASSES.contains(owner) : LIBRARY.getOrDefault(owner, Set.of()).contains(name);
        }

        /** The method around this place; the first values of fields are given in each constructor. */
        private List<? extends Element> callers() {
            TreePath path = getCurrentPath();
            while (path.getLeaf().getKind() != Tree.Kind.METHOD && path.getLeaf().getKind() != Tree.Kind.CLASS) {
                path = path.getParentPath();
            }
            Element around = trees.getElement(path);
            if (path.getLeaf().getKind() == Tree.Kind.METHOD) {
                return List.of(around);
            }
            return around.getEnclosedElements().stream().filter(e -> e.getKind() == ElementKind.CONSTRUCTOR).toList();
        }

        @Override public Void visitForLoop(ForLoopTree tree, Void v) {
            rule(9, "the loop at " + where(tree) + " has a counter, a bound and a step", tree.getInitializer().size() == 1 && tree.getUpdate().size() == 1
                && tree.getCondition() != null && tree.getInitializer().get(0) instanceof VariableTree counter
                && tree.getCondition().toString().matches(".*\\b" + counter.getName() + " (<|<=|>|>=) .*")
                && tree.getUpdate().get(0).toString().matches(counter.getName() + "(\\+\\+|--);?"));
            return super.visitForLoop(tree, v);
        }

        @Override public Void visitWhileLoop(WhileLoopTree tree, Void v) {
            rule(9, "the loop at " + where(tree) + " has a condition", !tree.getCondition().toString().equals("(true)"));
            return super.visitWhileLoop(tree, v);
        }

        @Override public Void visitBinary(BinaryTree tree, Void v) {
            TypeMirror type = trees.getTypeMirror(getCurrentPath());
            rule(10, "no texts are joined by + at " + where(tree), !type.toString().equals("java.lang.String"));
            if (tree.getKind() == Tree.Kind.DIVIDE || tree.getKind() == Tree.Kind.REMAINDER) {
                rule(7, "the divisor at " + where(tree) + " was looked at", isConstant(tree.getRightOperand()) || isTested(tree.getRightOperand().toString()));
            }
            return super.visitBinary(tree, v);
        }

        private boolean isConstant(ExpressionTree tree) {
            Element element = element(tree);
            return tree instanceof LiteralTree literal && !literal.getValue().toString().matches("0+")
                || element instanceof VariableElement variable && variable.getConstantValue() instanceof Number number && number.longValue() != 0;
        }

        private boolean isTested(String divisor) {
            for (TreePath path = getCurrentPath(); path != null; path = path.getParentPath()) {
                if (path.getLeaf() instanceof ConditionalExpressionTree choice && choice.getCondition().toString().contains(divisor + " > 0")
                    || path.getLeaf() instanceof IfTree choice2 && choice2.getCondition().toString().contains(divisor + " > 0")) {
                    return true;
                }
            }
            return false;
        }

        @Override public Void visitArrayAccess(ArrayAccessTree tree, Void v) {
            String conditions = conditionsAround();
            new TreePathScanner<Void, Void>() {
                @Override public Void visitIdentifier(IdentifierTree name, Void w) {
                    Element element = trees.getElement(getCurrentPath());
                    boolean isFixed = element.getKind() == ElementKind.FIELD && element.getModifiers().contains(Modifier.FINAL);
                    rule(7, name + " was looked at ahead of the index at " + where(tree), isFixed || conditions.matches("(?s).*\\b" + name + "\\b.*"));
                    return super.visitIdentifier(name, w);
                }
            }.scan(new TreePath(getCurrentPath(), tree.getIndex()), null);
            return super.visitArrayAccess(tree, v);
        }

        /** What the method around this place asks ahead of it: in an if that leaves the method, or in one that holds this place. */
        private String conditionsAround() {
            StringBuilder conditions = new StringBuilder();
            long here = trees.getSourcePositions().getStartPosition(unit, getCurrentPath().getLeaf());
            TreePath method = getCurrentPath();
            while (method.getLeaf().getKind() != Tree.Kind.METHOD && method.getParentPath() != null) {
                Tree leaf = method.getLeaf();
                if (leaf instanceof IfTree choice) {
                    conditions.append(choice.getCondition()).append('\n');
                } else if (leaf instanceof ConditionalExpressionTree choice) {
                    conditions.append(choice.getCondition()).append('\n');
                } else if (leaf instanceof BinaryTree both && both.getKind() == Tree.Kind.CONDITIONAL_AND) {
                    conditions.append(both.getLeftOperand()).append('\n');
                }
                method = method.getParentPath();
            }
            new TreePathScanner<Void, Void>() {
                @Override public Void visitIf(IfTree choice, Void w) {
                    boolean isAhead = trees.getSourcePositions().getEndPosition(unit, choice) < here;
                    if (isAhead && choice.getThenStatement().toString().contains("return")) {
                        conditions.append(choice.getCondition()).append('\n');
                    }
                    return super.visitIf(choice, w);
                }
            }.scan(method, null);
            return conditions.toString();
        }

        @Override public Void visitNewArray(NewArrayTree tree, Void v) {
            for (ExpressionTree length : tree.getDimensions()) {
                rule(7, "the length at " + where(tree) + " is not below 0", isConstant(length) || length.toString().matches("Math\\.max\\(.*, 0\\)"));
            }
            return super.visitNewArray(tree, v);
        }

        @Override public Void visitLambdaExpression(LambdaExpressionTree tree, Void v) {
            never(2, "a lambda", tree);
            return super.visitLambdaExpression(tree, v);
        }

        @Override public Void visitMemberReference(MemberReferenceTree tree, Void v) {
            never(2, "a method reference", tree);
            return super.visitMemberReference(tree, v);
        }

        @Override public Void visitThrow(ThrowTree tree, Void v) {
            never(6, "throw", tree);
            return super.visitThrow(tree, v);
        }

        @Override public Void visitTry(TryTree tree, Void v) {
            never(6, "try", tree);
            return super.visitTry(tree, v);
        }

        @Override public Void visitSynchronized(SynchronizedTree tree, Void v) {
            never(6, "synchronized", tree);
            return super.visitSynchronized(tree, v);
        }

        @Override public Void visitAssert(AssertTree tree, Void v) {
            never(6, "assert", tree);
            return super.visitAssert(tree, v);
        }

        @Override public Void visitBlock(BlockTree tree, Void v) {
            rule(5, "no static initialiser block at " + where(tree), !tree.isStatic());
            return super.visitBlock(tree, v);
        }

        void lookAtCalls() {
            rule(11, "some twelve classes at most (" + classes + ")", classes <= MOST_CLASSES);
            for (Element caller : calls.keySet()) {
                int deep = deep(caller, 1);
                rule(8, caller + " never comes to itself again", deep < Integer.MAX_VALUE);
                rule(11, caller + " goes eight deep at most (" + deep + ")", deep <= MOST_DEEP);
            }
        }

        /** Calls of the library are counted like others; a path longer than there are methods goes in a ring. */
        private int deep(Element method, int level) {
            if (level > calls.size() + 2) {
                return Integer.MAX_VALUE;
            }
            int deepest = level;
            for (Element called : calls.getOrDefault(method, Set.of())) {
                deepest = Math.max(deepest, deep(called, level + 1));
                if (deepest == Integer.MAX_VALUE) {
                    return deepest;
                }
            }
            return deepest;
        }
    }
}
