import com.sun.source.tree.ArrayTypeTree;
import com.sun.source.tree.BinaryTree;
import com.sun.source.tree.ClassTree;
import com.sun.source.tree.CompilationUnitTree;
import com.sun.source.tree.CompoundAssignmentTree;
import com.sun.source.tree.ConditionalExpressionTree;
import com.sun.source.tree.ExpressionTree;
import com.sun.source.tree.MethodInvocationTree;
import com.sun.source.tree.MethodTree;
import com.sun.source.tree.NewArrayTree;
import com.sun.source.tree.NewClassTree;
import com.sun.source.tree.Tree;
import com.sun.source.tree.TypeCastTree;
import com.sun.source.tree.UnaryTree;
import com.sun.source.tree.VariableTree;
import com.sun.source.util.JavacTask;
import com.sun.source.util.TreePath;
import com.sun.source.util.TreePathScanner;
import com.sun.source.util.Trees;
import java.io.IOException;
import java.nio.file.Path;
import java.util.ArrayList;
import java.util.EnumSet;
import java.util.HashMap;
import java.util.HashSet;
import java.util.List;
import java.util.Map;
import java.util.Set;
import java.util.TreeSet;
import javax.lang.model.element.Element;
import javax.lang.model.element.Modifier;
import javax.lang.model.type.TypeKind;
import javax.lang.model.type.TypeMirror;
import javax.tools.JavaCompiler;
import javax.tools.ToolProvider;

/** The rules of LANGUAGE.md in the tree that the compiler makes of the source: which kinds of Java it uses, and who calls whom. */
public final class TreeTest {
    private static final int DEEPEST_CALLS = 8;
    private static final int LONGEST_METHOD = 60;
    private static final Set<String> LIBRARY = Set.of("java.lang.Math.min", "java.lang.Math.max", "java.lang.Integer.bitCount",
            "java.lang.String.length", "java.lang.String.charAt", "java.lang.String.indexOf", "java.lang.System.arraycopy",
            "java.util.Arrays.fill", "java.lang.Object.<init>");
    private static final Set<Tree.Kind> NEVER = EnumSet.of(Tree.Kind.THROW, Tree.Kind.TRY, Tree.Kind.CATCH,
            Tree.Kind.SYNCHRONIZED, Tree.Kind.ASSERT, Tree.Kind.LAMBDA_EXPRESSION, Tree.Kind.MEMBER_REFERENCE,
            Tree.Kind.INSTANCE_OF, Tree.Kind.ANNOTATION, Tree.Kind.BINDING_PATTERN, Tree.Kind.SWITCH_EXPRESSION,
            Tree.Kind.YIELD, Tree.Kind.FLOAT_LITERAL, Tree.Kind.DOUBLE_LITERAL);

    private static int wrong = 0;

    private final Trees trees;
    private final CompilationUnitTree unit;
    private final Map<String, Set<String>> calls = new HashMap<>();
    private final Map<String, Integer> depths = new HashMap<>();

    private TreeTest(Trees trees, CompilationUnitTree unit) {
        this.trees = trees;
        this.unit = unit;
    }

    public static void main(String[] args) throws IOException {
        JavaCompiler compiler = ToolProvider.getSystemJavaCompiler();
        var files = compiler.getStandardFileManager(null, null, null);
        var source = files.getJavaFileObjects(Path.of("src/main/java/LampYear.java"));
        JavacTask task = (JavacTask) compiler.getTask(null, files, null, List.of("-proc:none"), null, source);
        CompilationUnitTree unit = task.parse().iterator().next();
        task.analyze();
        TreeTest t = new TreeTest(Trees.instance(task), unit);
        t.new Look().scan(unit, null);
        t.chains();
        System.out.println(wrong == 0 ? t.calls.size() + " methods keep to the rules" : wrong + " rules are broken");
        if (wrong != 0) {
            System.exit(1);
        }
    }

    private void rule(int number, boolean kept, Tree where, String what) {
        if (!kept) {
            wrong++;
            long line = where == null ? 0 : lineOf(trees.getSourcePositions().getStartPosition(unit, where));
            System.out.println("rule " + number + ", line " + line + ": " + what);
        }
    }

    private long lineOf(long position) {
        return unit.getLineMap().getLineNumber(position);
    }

    // ---- who calls whom

    private void chains() {
        int deepest = 0;
        for (String method : calls.keySet()) {
            deepest = Math.max(deepest, depth(method, new ArrayList<>()));
        }
        rule(11, deepest <= DEEPEST_CALLS, null, "calls go " + deepest + " deep");
        System.out.println("calls go " + deepest + " deep");
    }

    private int depth(String method, List<String> open) {
        if (depths.containsKey(method)) {
            return depths.get(method);
        }
        if (open.contains(method)) {
            rule(8, false, null, "a recursion without a guard: " + open);
            return 0;
        }
        open.add(method);
        int below = 0;
        for (String called : calls.getOrDefault(method, Set.of())) {
            below = Math.max(below, depth(called, open));
        }
        open.remove(method);
        depths.put(method, below + 1);
        return below + 1;
    }

    // ---- each part of the tree

    private final class Look extends TreePathScanner<Void, Void> {
        private final TreeSet<String> classes = new TreeSet<>();
        private String method = "";
        private boolean isConstructor = false;

        @Override
        public Void scan(Tree tree, Void nothing) {
            if (tree != null) {
                rule(6, !NEVER.contains(tree.getKind()), tree, tree.getKind().toString());
            }
            return super.scan(tree, nothing);
        }

        @Override
        public Void visitClass(ClassTree tree, Void nothing) {
            boolean isFace = classes.isEmpty();
            classes.add(tree.getSimpleName().toString());
            rule(2, isFace || tree.getModifiers().getFlags().contains(Modifier.STATIC), tree, "a class that is not static");
            rule(2, isFace || getCurrentPath().getParentPath().getLeaf() instanceof ClassTree, tree, "a class within a method");
            rule(11, classes.size() <= 12, tree, "classes: " + classes);
            for (Tree member : tree.getMembers()) {
                rule(5, member.getKind() != Tree.Kind.BLOCK, member, "an initialiser block");
            }
            return super.visitClass(tree, nothing);
        }

        @Override
        public Void visitMethod(MethodTree tree, Void nothing) {
            method = trees.getElement(getCurrentPath()).getEnclosingElement() + "." + trees.getElement(getCurrentPath());
            isConstructor = tree.getReturnType() == null;
            calls.put(method, new HashSet<>());
            rule(11, tree.getParameters().size() <= 7, tree, "parameters of " + method);
            long first = lineOf(trees.getSourcePositions().getStartPosition(unit, tree));
            // a constructor that the compiler adds has no end in the source
            long last = Math.max(first, lineOf(Math.max(0, trees.getSourcePositions().getEndPosition(unit, tree))));
            rule(11, last - first < LONGEST_METHOD, tree, method + " is long");
            rule(6, tree.getThrows().isEmpty(), tree, method + " throws");
            super.visitMethod(tree, nothing);
            method = "";
            isConstructor = false;
            return null;
        }

        @Override
        public Void visitVariable(VariableTree tree, Void nothing) {
            Set<Modifier> flags = tree.getModifiers().getFlags();
            rule(5, !flags.contains(Modifier.STATIC) || flags.contains(Modifier.FINAL), tree, "a static field that can change");
            type(tree.getType(), tree);
            return super.visitVariable(tree, nothing);
        }

        private void type(Tree type, Tree where) {
            if (type instanceof ArrayTypeTree row) {
                rule(3, !(row.getType() instanceof ArrayTypeTree), where, "an array of more than one dimension");
                type(row.getType(), where);
            } else {
                String name = String.valueOf(type);
                boolean known = Set.of("int", "long", "byte", "char", "boolean", "String").contains(name) || classes.contains(name)
                        || trees.getTypeMirror(new TreePath(getCurrentPath(), type)).toString().startsWith("LampYear");
                rule(3, known, where, "the type " + name);
            }
        }

        @Override
        public Void visitMethodInvocation(MethodInvocationTree tree, Void nothing) {
            called(trees.getElement(getCurrentPath()), tree);
            return super.visitMethodInvocation(tree, nothing);
        }

        private void called(Element target, Tree tree) {
            String owner = target.getEnclosingElement().toString();
            if (owner.startsWith("LampYear")) {
                calls.computeIfAbsent(method, m -> new HashSet<>()).add(owner + "." + target);
            } else {
                rule(4, LIBRARY.contains(owner + "." + target.getSimpleName()), tree, owner + "." + target);
            }
        }

        @Override
        public Void visitNewClass(NewClassTree tree, Void nothing) {
            rule(2, tree.getClassBody() == null, tree, "a class without a name");
            rule(12, isConstructor || method.isEmpty(), tree, "an object is made in " + method);
            called(trees.getElement(getCurrentPath()), tree);
            return super.visitNewClass(tree, nothing);
        }

        @Override
        public Void visitNewArray(NewArrayTree tree, Void nothing) {
            rule(12, isConstructor || method.isEmpty(), tree, "an array is made in " + method);
            for (ExpressionTree length : tree.getDimensions()) {
                rule(7, onlyConstants(length), tree, "a length that is no constant: " + length);
            }
            return super.visitNewArray(tree, nothing);
        }

        /** Lengths for new rows are reckoned of literals, constants and the length that a constant row has. */
        private boolean onlyConstants(ExpressionTree length) {
            if (length instanceof BinaryTree sum) {
                return onlyConstants(sum.getLeftOperand()) && onlyConstants(sum.getRightOperand());
            }
            Element e = trees.getElement(new TreePath(getCurrentPath(), length));
            return length.getKind() == Tree.Kind.INT_LITERAL
                    || e != null && e.getModifiers().containsAll(Set.of(Modifier.STATIC, Modifier.FINAL));
        }

        @Override
        public Void visitTypeCast(TypeCastTree tree, Void nothing) {
            TypeMirror type = trees.getTypeMirror(new TreePath(getCurrentPath(), tree.getType()));
            rule(6, type.getKind().isPrimitive(), tree, "a cast to " + type);
            rule(3, type.getKind() != TypeKind.FLOAT && type.getKind() != TypeKind.DOUBLE, tree, "a cast to " + type);
            return super.visitTypeCast(tree, nothing);
        }

        @Override
        public Void visitBinary(BinaryTree tree, Void nothing) {
            Tree.Kind kind = tree.getKind();
            if (kind == Tree.Kind.PLUS) {
                rule(10, trees.getTypeMirror(getCurrentPath()).getKind().isPrimitive(), tree, "texts joined by +");
            }
            if (kind == Tree.Kind.DIVIDE || kind == Tree.Kind.REMAINDER) {
                rule(7, dividesSafely(tree), tree, "a divisor that is not looked at: " + tree);
            }
            if (kind == Tree.Kind.EQUAL_TO || kind == Tree.Kind.NOT_EQUAL_TO) {
                TypeMirror left = trees.getTypeMirror(new TreePath(getCurrentPath(), tree.getLeftOperand()));
                rule(6, !left.toString().startsWith("java.lang"), tree, "== between library objects");
            }
            return super.visitBinary(tree, nothing);
        }

        /** By a literal, or in b == 0 ? .. : a / b. */
        private boolean dividesSafely(BinaryTree tree) {
            if (tree.getRightOperand().getKind() == Tree.Kind.INT_LITERAL) {
                return !tree.getRightOperand().toString().equals("0");
            }
            return getCurrentPath().getParentPath().getLeaf() instanceof ConditionalExpressionTree choice
                    && choice.getFalseExpression() == tree
                    && choice.getCondition().toString().replaceAll("[()]", "").equals(tree.getRightOperand() + " == 0");
        }

        @Override
        public Void visitCompoundAssignment(CompoundAssignmentTree tree, Void nothing) {
            Tree.Kind kind = tree.getKind();
            rule(7, kind != Tree.Kind.DIVIDE_ASSIGNMENT && kind != Tree.Kind.REMAINDER_ASSIGNMENT, tree, "a divisor: " + tree);
            rule(10, trees.getTypeMirror(getCurrentPath()).getKind().isPrimitive(), tree, "texts joined by +=");
            return super.visitCompoundAssignment(tree, nothing);
        }

        @Override
        public Void visitUnary(UnaryTree tree, Void nothing) {
            rule(3, trees.getTypeMirror(getCurrentPath()).getKind().isPrimitive(), tree, "an object counted: " + tree);
            return super.visitUnary(tree, nothing);
        }
    }
}
