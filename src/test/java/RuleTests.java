import com.sun.source.tree.BinaryTree;
import com.sun.source.tree.BlockTree;
import com.sun.source.tree.ClassTree;
import com.sun.source.tree.CompilationUnitTree;
import com.sun.source.tree.DoWhileLoopTree;
import com.sun.source.tree.EnhancedForLoopTree;
import com.sun.source.tree.ExpressionStatementTree;
import com.sun.source.tree.ExpressionTree;
import com.sun.source.tree.ForLoopTree;
import com.sun.source.tree.ImportTree;
import com.sun.source.tree.MethodInvocationTree;
import com.sun.source.tree.MethodTree;
import com.sun.source.tree.NewClassTree;
import com.sun.source.tree.ParenthesizedTree;
import com.sun.source.tree.StatementTree;
import com.sun.source.tree.Tree;
import com.sun.source.tree.TypeCastTree;
import com.sun.source.tree.UnaryTree;
import com.sun.source.tree.VariableTree;
import com.sun.source.tree.WhileLoopTree;
import com.sun.source.util.JavacTask;
import com.sun.source.util.TreePath;
import com.sun.source.util.TreePathScanner;
import com.sun.source.util.Trees;
import java.io.IOException;
import java.nio.file.Path;
import java.util.ArrayList;
import java.util.EnumSet;
import java.util.HashMap;
import java.util.LinkedHashMap;
import java.util.LinkedHashSet;
import java.util.List;
import java.util.Map;
import java.util.Set;
import javax.lang.model.element.Element;
import javax.lang.model.element.ElementKind;
import javax.lang.model.element.Modifier;
import javax.lang.model.type.TypeKind;
import javax.lang.model.type.TypeMirror;
import javax.tools.JavaCompiler;
import javax.tools.StandardJavaFileManager;
import javax.tools.ToolProvider;

/** The rules of LANGUAGE.md that can be seen in the syntax tree, as the compiler reads the class. */
public final class RuleTests extends TreePathScanner<Void, Void> {
    private static final int LONGEST_METHOD = 60;
    private static final int MOST_PARAMETERS = 7;
    private static final int MOST_CLASSES = 12;
    private static final int MOST_FIELDS = 20;
    private static final int DEEPEST = 8;

    private static final Set<Tree.Kind> OUT = EnumSet.of(Tree.Kind.THROW, Tree.Kind.TRY, Tree.Kind.SYNCHRONIZED,
            Tree.Kind.ASSERT, Tree.Kind.LAMBDA_EXPRESSION, Tree.Kind.MEMBER_REFERENCE, Tree.Kind.SWITCH_EXPRESSION,
            Tree.Kind.YIELD, Tree.Kind.ANNOTATION, Tree.Kind.DOUBLE_LITERAL, Tree.Kind.FLOAT_LITERAL,
            Tree.Kind.STRING_LITERAL);
    private static final Set<Tree.Kind> ORDER = EnumSet.of(Tree.Kind.LESS_THAN, Tree.Kind.LESS_THAN_EQUAL,
            Tree.Kind.GREATER_THAN, Tree.Kind.GREATER_THAN_EQUAL);
    private static final Set<String> TYPES = Set.of("int", "long", "boolean", "int[]", "long[]");
    private static final Set<String> IMPORTS = Set.of("java.util.ArrayList", "java.util.Arrays", "java.util.List");
    private static final Set<String> LIBRARY = Set.of("java.lang.Math.abs", "java.lang.Math.max", "java.lang.Math.min",
            "java.util.Arrays.fill", "java.util.Arrays.copyOf", "java.util.Arrays.copyOfRange",
            "java.lang.System.arraycopy", "java.util.ArrayList.<init>", "java.util.ArrayList.add",
            "java.util.ArrayList.get", "java.util.ArrayList.set", "java.util.ArrayList.size",
            "java.util.ArrayList.isEmpty", "java.util.ArrayList.clear", "java.lang.Object.<init>");

    private final Trees trees;
    private final CompilationUnitTree unit;
    private final Map<Element, Set<Element>> calls = new LinkedHashMap<>();
    private final Map<Element, Integer> depths = new HashMap<>();
    private final Set<Element> open = new LinkedHashSet<>();
    private Element caller;
    private int classes;

    private RuleTests(Trees trees, CompilationUnitTree unit) {
        this.trees = trees;
        this.unit = unit;
    }

    public static void main(String[] args) throws IOException {
        JavaCompiler compiler = ToolProvider.getSystemJavaCompiler();
        try (StandardJavaFileManager files = compiler.getStandardFileManager(null, null, null)) {
            Path path = Path.of(args.length > 0 ? args[0] : "src/main/java/ParametricFlow.java");
            JavacTask task = (JavacTask) compiler.getTask(null, files, null, List.of("-proc:none"), null,
                    files.getJavaFileObjects(path));
            CompilationUnitTree unit = task.parse().iterator().next();
            task.analyze();
            RuleTests rules = new RuleTests(Trees.instance(task), unit);
            Due.is("11: one class that holds all others", unit.getTypeDecls().size(), 1);
            Due.holds("1: no package", unit.getPackage() == null);
            for (ImportTree i : unit.getImports()) {
                Due.holds("4: " + i, IMPORTS.contains(i.getQualifiedIdentifier().toString()));
            }
            rules.scan(unit, null);
            Due.holds("11: at most " + MOST_CLASSES + " classes", rules.classes <= MOST_CLASSES);
            rules.depths();
        }
        Due.end("RuleTests");
    }

    @Override
    public Void scan(Tree tree, Void none) {
        if (tree != null) {
            Due.holds("6: no " + tree.getKind() + at(tree), !OUT.contains(tree.getKind()));
        }
        return super.scan(tree, none);
    }

    @Override
    public Void visitClass(ClassTree tree, Void none) {
        classes++;
        Element element = trees.getElement(getCurrentPath());
        boolean inside = element.getEnclosingElement().getKind() != ElementKind.PACKAGE;
        Due.holds("2: a class with a name" + at(tree), !tree.getSimpleName().isEmpty());
        Due.holds("2: it stands in a class" + at(tree), !inside || element.getEnclosingElement().getKind().isClass());
        Due.holds("2: static" + at(tree), !inside || element.getModifiers().contains(Modifier.STATIC));
        int fields = 0;
        for (Tree member : tree.getMembers()) {
            Due.holds("5: no initialiser block" + at(member), !(member instanceof BlockTree));
            if (member instanceof VariableTree && !isStatic((VariableTree) member)) {
                fields++;
            }
        }
        Due.holds("11: at most " + MOST_FIELDS + " fields" + at(tree), fields <= MOST_FIELDS);
        return super.visitClass(tree, none);
    }

    /** What a field begins with is made when the constructor runs, so its calls count as the constructor's. */
    @Override
    public Void visitVariable(VariableTree tree, Void none) {
        Element element = trees.getElement(getCurrentPath());
        TypeMirror type = element.asType();
        Due.holds("3: type " + type + at(tree), isKnown(type));
        if (element.getKind() == ElementKind.FIELD) {
            if (isStatic(tree)) {
                Due.holds("5: final" + at(tree), element.getModifiers().contains(Modifier.FINAL));
                Due.holds("5: a constant" + at(tree), type.getKind().isPrimitive());
            }
            caller = constructor(element.getEnclosingElement());
        }
        return super.visitVariable(tree, none);
    }

    @Override
    public Void visitMethod(MethodTree tree, Void none) {
        caller = trees.getElement(getCurrentPath());
        calls.computeIfAbsent(caller, c -> new LinkedHashSet<>());
        Due.holds("11: parameters" + at(tree), tree.getParameters().size() <= MOST_PARAMETERS);
        long start = line(tree);
        long end = unit.getLineMap().getLineNumber(trees.getSourcePositions().getEndPosition(unit, tree));
        Due.holds("11: short" + at(tree), end - start < LONGEST_METHOD);
        Due.holds("6: a name of its own" + at(tree),
                !Set.of("equals", "hashCode", "toString").contains(tree.getName().toString()));
        Due.holds("6: throws nothing" + at(tree), tree.getThrows().isEmpty());
        return super.visitMethod(tree, none);
    }

    @Override
    public Void visitMethodInvocation(MethodInvocationTree tree, Void none) {
        call(tree);
        return super.visitMethodInvocation(tree, none);
    }

    @Override
    public Void visitNewClass(NewClassTree tree, Void none) {
        Due.holds("2: no class without a name" + at(tree), tree.getClassBody() == null);
        call(tree);
        return super.visitNewClass(tree, none);
    }

    @Override
    public Void visitTypeCast(TypeCastTree tree, Void none) {
        Due.holds("6: a cast of numbers alone" + at(tree),
                trees.getTypeMirror(getCurrentPath()).getKind().isPrimitive());
        return super.visitTypeCast(tree, none);
    }

    @Override
    public Void visitForLoop(ForLoopTree tree, Void none) {
        loop(tree, tree.getCondition(), tree.getStatement(), tree.getUpdate());
        return super.visitForLoop(tree, none);
    }

    @Override
    public Void visitWhileLoop(WhileLoopTree tree, Void none) {
        loop(tree, tree.getCondition(), tree.getStatement(), List.of());
        return super.visitWhileLoop(tree, none);
    }

    @Override
    public Void visitDoWhileLoop(DoWhileLoopTree tree, Void none) {
        loop(tree, tree.getCondition(), tree.getStatement(), List.of());
        return super.visitDoWhileLoop(tree, none);
    }

    @Override
    public Void visitEnhancedForLoop(EnhancedForLoopTree tree, Void none) {
        TypeMirror type = trees.getTypeMirror(new TreePath(getCurrentPath(), tree.getExpression()));
        Due.holds("12: lists are gone through by index" + at(tree), type.getKind() == TypeKind.ARRAY);
        return super.visitEnhancedForLoop(tree, none);
    }

    private void loop(Tree tree, ExpressionTree condition, StatementTree body, List<? extends StatementTree> updates) {
        List<StatementTree> steps = new ArrayList<>(updates);
        if (body instanceof BlockTree) {
            steps.addAll(((BlockTree) body).getStatements());
        }
        Due.holds("9: the loop ends" + at(tree), hasBoundedCounter(condition, steps));
    }

    /** A condition that holds only while a counter is on one side of a bound, and the step that brings it there. */
    private static boolean hasBoundedCounter(ExpressionTree condition, List<? extends StatementTree> steps) {
        if (condition instanceof ParenthesizedTree) {
            return hasBoundedCounter(((ParenthesizedTree) condition).getExpression(), steps);
        }
        if (!(condition instanceof BinaryTree)) {
            return false;
        }
        BinaryTree both = (BinaryTree) condition;
        if (both.getKind() == Tree.Kind.CONDITIONAL_AND) {
            return hasBoundedCounter(both.getLeftOperand(), steps) || hasBoundedCounter(both.getRightOperand(), steps);
        }
        if (!ORDER.contains(both.getKind())) {
            return false;
        }
        boolean grows = both.getKind() == Tree.Kind.LESS_THAN || both.getKind() == Tree.Kind.LESS_THAN_EQUAL;
        Tree.Kind step = grows ? Tree.Kind.POSTFIX_INCREMENT : Tree.Kind.POSTFIX_DECREMENT;
        for (StatementTree s : steps) {
            if (s instanceof ExpressionStatementTree) {
                ExpressionTree e = ((ExpressionStatementTree) s).getExpression();
                if (e.getKind() == step
                        && ((UnaryTree) e).getExpression().toString().equals(both.getLeftOperand().toString())) {
                    return true;
                }
            }
        }
        return false;
    }

    private void call(Tree tree) {
        Element called = trees.getElement(getCurrentPath());
        Element owner = called.getEnclosingElement();
        boolean own = isOwn(owner);
        String name = owner + "." + called.getSimpleName();
        Due.holds("4: " + name + at(tree), own || LIBRARY.contains(name));
        calls.computeIfAbsent(caller, c -> new LinkedHashSet<>()).add(called);
    }

    private void depths() {
        for (Element method : new ArrayList<>(calls.keySet())) {
            Due.holds("11: " + method + " opens at most " + DEEPEST + " calls, itself included",
                    depth(method) <= DEEPEST);
        }
    }

    /** The most calls that stand open at once, the library's own outermost ones included. */
    private int depth(Element method) {
        Integer known = depths.get(method);
        if (known != null) {
            return known;
        }
        Due.holds("8: no recursion of " + method, open.add(method));
        int deepest = 0;
        for (Element called : calls.getOrDefault(method, Set.of())) {
            if (!open.contains(called)) {
                deepest = Math.max(deepest, depth(called));
            } else {
                Due.holds("8: no recursion to " + called, false);
            }
        }
        open.remove(method);
        depths.put(method, deepest + 1);
        return deepest + 1;
    }

    private boolean isKnown(TypeMirror type) {
        String name = type.toString();
        return TYPES.contains(name) || name.startsWith("ParametricFlow.")
                || name.startsWith("java.util.ArrayList<ParametricFlow.");
    }

    private boolean isOwn(Element owner) {
        return owner.toString().equals("ParametricFlow") || owner.toString().startsWith("ParametricFlow.");
    }

    private static boolean isStatic(VariableTree field) {
        return field.getModifiers().getFlags().contains(Modifier.STATIC);
    }

    private static Element constructor(Element owner) {
        for (Element e : owner.getEnclosedElements()) {
            if (e.getKind() == ElementKind.CONSTRUCTOR) {
                return e;
            }
        }
        return owner;
    }

    private String at(Tree tree) {
        return " in line " + line(tree);
    }

    private long line(Tree tree) {
        long position = trees.getSourcePositions().getStartPosition(unit, tree);
        return position < 0 ? 0 : unit.getLineMap().getLineNumber(position);
    }
}
