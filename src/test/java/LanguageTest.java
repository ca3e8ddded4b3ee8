import com.sun.source.tree.ArrayAccessTree;
import com.sun.source.tree.AssignmentTree;
import com.sun.source.tree.BinaryTree;
import com.sun.source.tree.ClassTree;
import com.sun.source.tree.CompilationUnitTree;
import com.sun.source.tree.CompoundAssignmentTree;
import com.sun.source.tree.ExpressionTree;
import com.sun.source.tree.MethodInvocationTree;
import com.sun.source.tree.MethodTree;
import com.sun.source.tree.NewClassTree;
import com.sun.source.tree.Tree;
import com.sun.source.tree.UnaryTree;
import com.sun.source.tree.VariableTree;
import com.sun.source.util.JavacTask;
import com.sun.source.util.TreePath;
import com.sun.source.util.TreePathScanner;
import com.sun.source.util.Trees;
import java.io.IOException;
import java.nio.file.Files;
import java.nio.file.Path;
import java.util.ArrayList;
import java.util.Arrays;
import java.util.EnumSet;
import java.util.HashSet;
import java.util.LinkedHashMap;
import java.util.LinkedHashSet;
import java.util.List;
import java.util.Map;
import java.util.Set;
import javax.lang.model.element.Element;
import javax.lang.model.element.ElementKind;
import javax.lang.model.element.Modifier;
import javax.tools.JavaCompiler;
import javax.tools.StandardJavaFileManager;
import javax.tools.ToolProvider;

/** Rules of LANGUAGE.md, looked at in the source as the compiler reads it; in front of each its number there. */
final class LanguageTest extends TreePathScanner<Void, Void> {
    // What the program may be written with; whatever else Java has is out, lambdas and try among it.
    private static final Set<Tree.Kind> PARTS = EnumSet.of(
            Tree.Kind.COMPILATION_UNIT, Tree.Kind.CLASS, Tree.Kind.METHOD, Tree.Kind.VARIABLE, Tree.Kind.MODIFIERS,
            Tree.Kind.PRIMITIVE_TYPE, Tree.Kind.ARRAY_TYPE, Tree.Kind.IDENTIFIER, Tree.Kind.MEMBER_SELECT,
            Tree.Kind.BLOCK, Tree.Kind.EXPRESSION_STATEMENT, Tree.Kind.IF, Tree.Kind.FOR_LOOP,
            Tree.Kind.ENHANCED_FOR_LOOP, Tree.Kind.WHILE_LOOP, Tree.Kind.DO_WHILE_LOOP, Tree.Kind.SWITCH,
            Tree.Kind.CASE, Tree.Kind.BREAK, Tree.Kind.CONTINUE, Tree.Kind.RETURN, Tree.Kind.PARENTHESIZED,
            Tree.Kind.CONDITIONAL_EXPRESSION, Tree.Kind.METHOD_INVOCATION, Tree.Kind.NEW_CLASS, Tree.Kind.NEW_ARRAY,
            Tree.Kind.ARRAY_ACCESS, Tree.Kind.ASSIGNMENT, Tree.Kind.PLUS_ASSIGNMENT, Tree.Kind.MINUS_ASSIGNMENT,
            Tree.Kind.OR_ASSIGNMENT, Tree.Kind.POSTFIX_INCREMENT, Tree.Kind.POSTFIX_DECREMENT,
            Tree.Kind.UNARY_MINUS, Tree.Kind.LOGICAL_COMPLEMENT, Tree.Kind.PLUS, Tree.Kind.MINUS, Tree.Kind.MULTIPLY,
            Tree.Kind.DIVIDE, Tree.Kind.REMAINDER, Tree.Kind.LEFT_SHIFT, Tree.Kind.RIGHT_SHIFT, Tree.Kind.AND,
            Tree.Kind.OR, Tree.Kind.EQUAL_TO, Tree.Kind.NOT_EQUAL_TO, Tree.Kind.LESS_THAN,
            Tree.Kind.LESS_THAN_EQUAL, Tree.Kind.GREATER_THAN, Tree.Kind.GREATER_THAN_EQUAL,
            Tree.Kind.CONDITIONAL_AND, Tree.Kind.CONDITIONAL_OR, Tree.Kind.INT_LITERAL, Tree.Kind.CHAR_LITERAL,
            Tree.Kind.BOOLEAN_LITERAL);
    private static final Set<Tree.Kind> CHANGES = EnumSet.of(Tree.Kind.POSTFIX_INCREMENT,
            Tree.Kind.POSTFIX_DECREMENT, Tree.Kind.PREFIX_INCREMENT, Tree.Kind.PREFIX_DECREMENT);
    private static final Set<String> LIBRARY = new HashSet<>(Arrays.asList("java.lang.Math.max",
            "java.lang.Math.min", "java.lang.Math.abs", "java.lang.Integer.bitCount", "java.lang.System.arraycopy",
            "java.lang.Object.<init>"));
    private static final Set<String> NUMBERS = new HashSet<>(Arrays.asList("int", "boolean", "char", "int[]",
            "char[]", "void"));
    private static final int MOST_PARAMETERS = 7;
    private static final int MOST_LINES = 60;
    private static final int MOST_CALLS_DEEP = 8;
    private static final int MOST_CLASSES = 12;
    private static final int MOST_FIELDS = 20;

    private final Check check;
    private final CompilationUnitTree unit;
    private final Trees trees;
    private final Map<Element, Set<Element>> calls = new LinkedHashMap<>();
    private Element method;
    private int classes;

    private LanguageTest(Check check, CompilationUnitTree unit, Trees trees) {
        this.check = check;
        this.unit = unit;
        this.trees = trees;
    }

    static void test(Check check, Path program) throws IOException {
        check.begin("LANGUAGE.md");
        String source = Files.readString(program);
        check.holds("3: only signs 10 and 32 to 126",
                source.chars().allMatch(sign -> sign == 10 || sign >= 32 && sign <= 126));
        JavaCompiler compiler = ToolProvider.getSystemJavaCompiler();
        try (StandardJavaFileManager files = compiler.getStandardFileManager(null, null, null)) {
            JavacTask task = (JavacTask) compiler.getTask(null, files, null, List.of("-proc:none"), null,
                    files.getJavaFileObjects(program));
            CompilationUnitTree unit = task.parse().iterator().next();
            task.analyze();
            LanguageTest test = new LanguageTest(check, unit, Trees.instance(task));
            test.scan(unit, null);
            test.whole();
        }
    }

    private void whole() {
        check.holds("1: one class in the file, without a package or an import",
                unit.getTypeDecls().size() == 1 && unit.getPackage() == null && unit.getImports().isEmpty());
        check.holds("11: at most twelve classes, not " + classes, classes >= 1 && classes <= MOST_CLASSES);
        check.holds("11: the calls were seen", calls.size() > 20);
        for (Element first : calls.keySet()) {
            int deep = depth(first, new ArrayList<>());
            check.holds("8, 11: at most eight calls deep and none of itself: " + first, deep <= MOST_CALLS_DEEP);
        }
    }

    private int depth(Element from, List<Element> open) {
        if (open.contains(from)) {
            return MOST_CALLS_DEEP + 1;
        }
        open.add(from);
        int deepest = 0;
        for (Element next : calls.getOrDefault(from, Set.of())) {
            deepest = Math.max(deepest, depth(next, open));
        }
        open.remove(from);
        return deepest + 1;
    }

    private String at(Tree tree) {
        long start = trees.getSourcePositions().getStartPosition(unit, tree);
        return " in line " + (start < 0 ? 0 : unit.getLineMap().getLineNumber(start));
    }

    private Element element(Tree tree) {
        return trees.getElement(new TreePath(getCurrentPath(), tree));
    }

    private boolean isOwn(Element element) {
        Element outermost = element;
        while (outermost != null && !(outermost.getKind() == ElementKind.CLASS
                && outermost.getEnclosingElement().getKind() == ElementKind.PACKAGE)) {
            outermost = outermost.getEnclosingElement();
        }
        return outermost != null && outermost.getSimpleName().contentEquals("BeachBars");
    }

    @Override
    public Void scan(Tree tree, Void nothing) {
        if (tree != null) {
            check.holds("6, 10: " + tree.getKind() + at(tree) + " is among what may be used",
                    PARTS.contains(tree.getKind()));
        }
        return super.scan(tree, nothing);
    }

    @Override
    public Void visitClass(ClassTree tree, Void nothing) {
        classes++;
        Set<Modifier> flags = tree.getModifiers().getFlags();
        boolean outer = getCurrentPath().getParentPath().getLeaf() == unit;
        Set<Modifier> due = outer ? EnumSet.of(Modifier.PUBLIC, Modifier.FINAL)
                : EnumSet.of(Modifier.PRIVATE, Modifier.STATIC, Modifier.FINAL);
        check.holds("1, 2: the class " + tree.getSimpleName() + " is " + due, flags.equals(due));
        check.holds("2: it stands in a class or the file", outer
                || getCurrentPath().getParentPath().getLeaf() instanceof ClassTree);
        check.holds("4: it extends and implements nothing",
                tree.getExtendsClause() == null && tree.getImplementsClause().isEmpty());
        int fields = 0;
        for (Tree member : tree.getMembers()) {
            check.holds("5: no initialiser block" + at(member), member.getKind() != Tree.Kind.BLOCK);
            if (member instanceof VariableTree field
                    && !field.getModifiers().getFlags().contains(Modifier.STATIC)) {
                fields++;
            }
        }
        check.holds("11: " + tree.getSimpleName() + " has at most twenty fields", fields <= MOST_FIELDS);
        return super.visitClass(tree, nothing);
    }

    @Override
    public Void visitMethod(MethodTree tree, Void nothing) {
        method = trees.getElement(getCurrentPath());
        calls.putIfAbsent(method, new LinkedHashSet<>());
        check.holds("11: at most seven parameters" + at(tree), tree.getParameters().size() <= MOST_PARAMETERS);
        check.holds("6: no throws" + at(tree), tree.getThrows().isEmpty());
        long start = trees.getSourcePositions().getStartPosition(unit, tree);
        long end = trees.getSourcePositions().getEndPosition(unit, tree);
        if (start >= 0 && end > start) {
            long lines = unit.getLineMap().getLineNumber(end) - unit.getLineMap().getLineNumber(start) + 1;
            check.holds("11: at most sixty lines" + at(tree), lines <= MOST_LINES);
        }
        String name = tree.getName().toString();
        check.holds("6: " + name + " is not one of an object's own",
                !name.equals("equals") && !name.equals("hashCode") && !name.equals("toString"));
        super.visitMethod(tree, nothing);
        method = null;
        return null;
    }

    @Override
    public Void visitVariable(VariableTree tree, Void nothing) {
        Element element = trees.getElement(getCurrentPath());
        String type = element.asType().toString();
        check.holds("3: " + type + at(tree) + " is a type that may be used",
                NUMBERS.contains(type) || type.startsWith("BeachBars."));
        Set<Modifier> flags = tree.getModifiers().getFlags();
        if (flags.contains(Modifier.STATIC)) {
            check.holds("5: static state is final, of numbers and written out" + at(tree),
                    flags.contains(Modifier.FINAL) && NUMBERS.contains(type) && tree.getInitializer() != null);
        }
        return super.visitVariable(tree, nothing);
    }

    @Override
    public Void visitMethodInvocation(MethodInvocationTree tree, Void nothing) {
        calls(element(tree.getMethodSelect()), tree);
        return super.visitMethodInvocation(tree, nothing);
    }

    @Override
    public Void visitNewClass(NewClassTree tree, Void nothing) {
        check.holds("2: no class without a name" + at(tree), tree.getClassBody() == null);
        calls(trees.getElement(getCurrentPath()), tree);
        return super.visitNewClass(tree, nothing);
    }

    private void calls(Element called, Tree tree) {
        if (isOwn(called)) {
            if (method != null) {
                calls.get(method).add(called);
            }
        } else {
            String name = called.getEnclosingElement() + "." + called.getSimpleName();
            check.holds("4: " + name + at(tree) + " is in the library", LIBRARY.contains(name));
        }
    }

    @Override
    public Void visitBinary(BinaryTree tree, Void nothing) {
        String type = trees.getTypeMirror(getCurrentPath()).toString();
        check.holds("3, 10: numbers or boolean, not " + type + at(tree), type.equals("int") || type.equals("boolean"));
        return super.visitBinary(tree, nothing);
    }

    @Override
    public Void visitAssignment(AssignmentTree tree, Void nothing) {
        changes(tree.getVariable());
        return super.visitAssignment(tree, nothing);
    }

    @Override
    public Void visitCompoundAssignment(CompoundAssignmentTree tree, Void nothing) {
        changes(tree.getVariable());
        return super.visitCompoundAssignment(tree, nothing);
    }

    @Override
    public Void visitUnary(UnaryTree tree, Void nothing) {
        if (CHANGES.contains(tree.getKind())) {
            changes(tree.getExpression());
        }
        return super.visitUnary(tree, nothing);
    }

    private void changes(ExpressionTree target) {
        ExpressionTree whole = target;
        TreePath path = new TreePath(getCurrentPath(), whole);
        while (whole instanceof ArrayAccessTree access) {
            whole = access.getExpression();
            path = new TreePath(path, whole);
        }
        Element changed = trees.getElement(path);
        check.holds("5: no static state is changed" + at(target),
                changed != null && !changed.getModifiers().contains(Modifier.STATIC));
    }
}
