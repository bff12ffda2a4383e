import com.sun.source.tree.AnnotationTree;
import com.sun.source.tree.ArrayAccessTree;
import com.sun.source.tree.BinaryTree;
import com.sun.source.tree.BlockTree;
import com.sun.source.tree.ClassTree;
import com.sun.source.tree.CompilationUnitTree;
import com.sun.source.tree.ExpressionTree;
import com.sun.source.tree.ForLoopTree;
import com.sun.source.tree.IdentifierTree;
import com.sun.source.tree.MethodInvocationTree;
import com.sun.source.tree.MethodTree;
import com.sun.source.tree.NewArrayTree;
import com.sun.source.tree.NewClassTree;
import com.sun.source.tree.StatementTree;
import com.sun.source.tree.Tree;
import com.sun.source.tree.VariableTree;
import com.sun.source.util.JavacTask;
import com.sun.source.util.TreePath;
import com.sun.source.util.TreePathScanner;
import com.sun.source.util.Trees;
import java.io.IOException;
import java.nio.file.Path;
import java.util.ArrayDeque;
import java.util.ArrayList;
import java.util.Deque;
import java.util.HashMap;
import java.util.HashSet;
import java.util.LinkedHashMap;
import java.util.LinkedHashSet;
import java.util.List;
import java.util.Map;
import java.util.Set;
import javax.lang.model.element.Element;
import javax.lang.model.element.ElementKind;
import javax.lang.model.element.ExecutableElement;
import javax.lang.model.element.Modifier;
import javax.lang.model.element.TypeElement;
import javax.lang.model.element.VariableElement;
import javax.lang.model.type.ArrayType;
import javax.lang.model.type.TypeKind;
import javax.lang.model.type.TypeMirror;
import javax.tools.JavaCompiler;
import javax.tools.StandardJavaFileManager;
import javax.tools.ToolProvider;

/** The rules of LANGUAGE.md that the compiler's own tree of WindHarp.java can tell, with each rule's number. */
public final class RulesTest extends TreePathScanner<Void, Void> {
    private static final Due due = new Due("RulesTest");
    private static final Path SOURCE = Path.of("src/main/java/WindHarp.java");

    private static final Set<Tree.Kind> NEVER = Set.of(Tree.Kind.THROW, Tree.Kind.TRY, Tree.Kind.CATCH, Tree.Kind.SYNCHRONIZED,
        Tree.Kind.ASSERT, Tree.Kind.LAMBDA_EXPRESSION, Tree.Kind.MEMBER_REFERENCE, Tree.Kind.BINDING_PATTERN,
        Tree.Kind.IMPORT, Tree.Kind.PACKAGE, Tree.Kind.ANNOTATION, Tree.Kind.TYPE_ANNOTATION,
        Tree.Kind.WHILE_LOOP, Tree.Kind.DO_WHILE_LOOP, Tree.Kind.INSTANCE_OF, Tree.Kind.SWITCH_EXPRESSION);
    private static final Set<String> LIBRARY = Set.of("java.lang.Math.abs", "java.lang.Math.max", "java.lang.Math.min",
        "java.lang.Integer.bitCount", "java.lang.System.arraycopy", "java.lang.String.length", "java.lang.String.charAt");
    private static final Set<TypeKind> NUMBERS = Set.of(TypeKind.INT, TypeKind.LONG, TypeKind.SHORT, TypeKind.BYTE,
        TypeKind.CHAR, TypeKind.BOOLEAN);

    private final Trees trees;
    private final Map<ExecutableElement, Set<ExecutableElement>> calls = new LinkedHashMap<>();
    private final Set<TypeElement> own = new LinkedHashSet<>();
    private final Deque<ExecutableElement> open = new ArrayDeque<>();
    private CompilationUnitTree unit;

    private RulesTest(Trees trees) {
        this.trees = trees;
    }

    public static void main(String[] args) throws IOException {
        JavaCompiler compiler = ToolProvider.getSystemJavaCompiler();
        try (StandardJavaFileManager files = compiler.getStandardFileManager(null, null, null)) {
            JavacTask task = (JavacTask) compiler.getTask(null, files, null, List.of("-proc:none"), null,
                files.getJavaFileObjects(SOURCE));
            List<CompilationUnitTree> units = new ArrayList<>();
            task.parse().forEach(units::add);
            task.analyze();
            RulesTest rules = new RulesTest(Trees.instance(task));
            for (CompilationUnitTree unit : units) {
                rules.unit = unit;
                rules.scan(unit, null);
            }
            rules.names();
            rules.depths();
        }
        due.end();
    }

    private String at(Tree tree) {
        long line = unit.getLineMap().getLineNumber(trees.getSourcePositions().getStartPosition(unit, tree));
        return " (line " + line + ")";
    }

    private Element elementOf(Tree tree) {
        return trees.getElement(TreePath.getPath(unit, tree));
    }

    @Override
    public Void scan(Tree tree, Void none) {
        if (tree != null) {
            boolean isBare = tree instanceof AnnotationTree || NEVER.contains(tree.getKind());
            due.holds("rules 1, 2, 6: no " + tree.getKind() + at(tree), !isBare);
        }
        return super.scan(tree, none);
    }

    @Override
    public Void visitClass(ClassTree tree, Void none) {
        TypeElement type = (TypeElement) elementOf(tree);
        own.add(type);
        boolean isInside = type.getEnclosingElement() instanceof TypeElement;
        due.holds("rule 2: no local or anonymous class" + at(tree), isInside || type.getSimpleName().contentEquals("WindHarp"));
        if (isInside) {
            due.holds("rule 1: " + type + " is hidden", !type.getModifiers().contains(Modifier.PUBLIC)
                && !type.getModifiers().contains(Modifier.PROTECTED));
            due.holds("rule 2: " + type + " is static", type.getModifiers().contains(Modifier.STATIC));
        }
        int fields = 0;
        for (Tree member : tree.getMembers()) {
            due.holds("rule 5: no initialiser block" + at(member), !(member instanceof BlockTree));
            boolean isField = member instanceof VariableTree;
            fields += isField && !((VariableTree) member).getModifiers().getFlags().contains(Modifier.STATIC) ? 1 : 0;
        }
        due.holds("rule 11: " + type + " has twenty fields at most: " + fields, fields <= 20);
        return super.visitClass(tree, none);
    }

    @Override
    public Void visitVariable(VariableTree tree, Void none) {
        VariableElement variable = (VariableElement) elementOf(tree);
        TypeMirror type = variable.asType();
        boolean isArray = type.getKind() == TypeKind.ARRAY;
        TypeMirror bare = isArray ? ((ArrayType) type).getComponentType() : type;
        boolean isKnown = NUMBERS.contains(bare.getKind()) || bare.toString().equals("java.lang.String")
            || bare.toString().startsWith("WindHarp.");
        due.holds("rule 3: the type of " + variable + at(tree), isKnown);
        if (variable.getKind() == ElementKind.FIELD && variable.getModifiers().contains(Modifier.STATIC)) {
            due.holds("rule 5: " + variable + " is final" + at(tree), variable.getModifiers().contains(Modifier.FINAL));
            due.holds("rule 5: " + variable + " is a constant" + at(tree), variable.getConstantValue() != null);
        }
        return super.visitVariable(tree, none);
    }

    @Override
    public Void visitMethod(MethodTree tree, Void none) {
        ExecutableElement method = (ExecutableElement) elementOf(tree);
        calls.putIfAbsent(method, new LinkedHashSet<>());
        due.holds("rule 11: parameters of " + method, method.getParameters().size() <= 7);
        due.holds("rule 6: " + method + " throws nothing", method.getThrownTypes().isEmpty());
        long from = unit.getLineMap().getLineNumber(trees.getSourcePositions().getStartPosition(unit, tree));
        long to = unit.getLineMap().getLineNumber(trees.getSourcePositions().getEndPosition(unit, tree));
        due.holds("rule 11: lines of " + method, to - from < 60);
        open.push(method);
        super.visitMethod(tree, none);
        open.pop();
        return null;
    }

    @Override
    public Void visitMethodInvocation(MethodInvocationTree tree, Void none) {
        ExecutableElement called = (ExecutableElement) elementOf(tree.getMethodSelect());
        TypeElement owner = (TypeElement) called.getEnclosingElement();
        boolean isOwn = owner.toString().startsWith("WindHarp");
        boolean isMade = called.getKind() == ElementKind.CONSTRUCTOR;
        due.holds("rule 4: " + owner + "." + called + at(tree), isOwn || isMade
            || LIBRARY.contains(owner + "." + called.getSimpleName()));
        if (isOwn && !open.isEmpty()) {
            calls.get(open.peek()).add(called);
        }
        return super.visitMethodInvocation(tree, none);
    }

    @Override
    public Void visitNewClass(NewClassTree tree, Void none) {
        due.holds("rule 12: an object is made by a field's initialiser" + at(tree), open.isEmpty());
        return super.visitNewClass(tree, none);
    }

    @Override
    public Void visitNewArray(NewArrayTree tree, Void none) {
        due.holds("rule 12: an array is made by a field's initialiser" + at(tree), open.isEmpty());
        due.holds("rule 3: an array of one dimension" + at(tree), tree.getDimensions().size() == 1);
        return super.visitNewArray(tree, none);
    }

    /** The loop's own counter stands in its condition against a bound, goes one on each time, and is set nowhere else. */
    @Override
    public Void visitForLoop(ForLoopTree tree, Void none) {
        List<? extends StatementTree> starts = tree.getInitializer();
        boolean hasCounter = starts.size() == 1 && starts.get(0) instanceof VariableTree && tree.getUpdate().size() == 1;
        due.holds("rule 9: a loop has a counter" + at(tree), hasCounter);
        if (hasCounter) {
            String counter = ((VariableTree) starts.get(0)).getName().toString();
            String update = tree.getUpdate().get(0).getExpression().toString();
            boolean goesUp = update.equals(counter + "++");
            due.holds("rule 9: " + counter + " goes on" + at(tree), goesUp || update.equals(counter + "--"));
            due.holds("rule 9: " + counter + " has a bound" + at(tree), isBounded(tree.getCondition(), counter, goesUp));
            due.holds("rule 9: " + counter + " is set by its loop alone" + at(tree),
                !tree.getStatement().toString().matches("(?s).*\\b" + counter + " ?(\\+\\+|--|[-+*/|&^]?=(?!=)).*"));
        }
        return super.visitForLoop(tree, none);
    }

    /** A loop that goes round at least once may say so ahead of its bound: i == 0 || i < bound. */
    private static boolean isBounded(ExpressionTree condition, String counter, boolean goesUp) {
        if (!(condition instanceof BinaryTree)) {
            return false;
        }
        BinaryTree both = (BinaryTree) condition;
        switch (both.getKind()) {
            case CONDITIONAL_AND:
                return isBounded(both.getLeftOperand(), counter, goesUp) || isBounded(both.getRightOperand(), counter, goesUp);
            case CONDITIONAL_OR:
                return both.getLeftOperand().toString().equals(counter + " == 0")
                    && isBounded(both.getRightOperand(), counter, goesUp);
            case LESS_THAN:
            case LESS_THAN_EQUAL:
                return goesUp && isNamed(both.getLeftOperand(), counter);
            case GREATER_THAN_EQUAL:
                return !goesUp && isNamed(both.getLeftOperand(), counter) && both.getRightOperand().toString().equals("0");
            default:
                return false;
        }
    }

    private static boolean isNamed(ExpressionTree tree, String name) {
        return tree instanceof IdentifierTree && ((IdentifierTree) tree).getName().contentEquals(name);
    }

    /** What divides is a number told, or was looked at ahead. */
    @Override
    public Void visitBinary(BinaryTree tree, Void none) {
        if (tree.getKind() == Tree.Kind.DIVIDE || tree.getKind() == Tree.Kind.REMAINDER) {
            String divisor = tree.getRightOperand().toString();
            boolean isNumber = divisor.matches("[1-9][0-9]*");
            due.holds("rule 7: " + tree + " is tested ahead" + at(tree), isNumber || isTestedNear(tree, divisor));
        }
        due.holds("rules 6, 10: no text is joined or likened by a sign: " + tree + at(tree),
            !isText(tree.getLeftOperand()) && !isText(tree.getRightOperand()));
        return super.visitBinary(tree, none);
    }

    private boolean isText(Tree tree) {
        return trees.getTypeMirror(TreePath.getPath(unit, tree)).toString().equals("java.lang.String");
    }

    private boolean isTestedNear(Tree tree, String divisor) {
        String method = open.isEmpty() ? "" : trees.getTree(open.peek()).toString();
        int place = method.indexOf(tree.toString());
        String ahead = place < 0 ? "" : method.substring(0, place);
        return ahead.contains(divisor + " < 1") || ahead.contains(divisor + " != 0");
    }

    @Override
    public Void visitArrayAccess(ArrayAccessTree tree, Void none) {
        String index = tree.getIndex().toString();
        due.holds("rule 7: no index is called for, or goes on, within its brackets" + at(tree),
            !index.contains("(") && !index.contains("++") && !index.contains("--"));
        return super.visitArrayAccess(tree, none);
    }

    private void names() {
        due.holds("rule 11: twelve classes at most: " + own.size(), own.size() <= 12);
        Set<String> face = new HashSet<>();
        for (ExecutableElement method : calls.keySet()) {
            if (method.getModifiers().contains(Modifier.PUBLIC)) {
                face.add(method.getSimpleName().toString());
            }
        }
        for (ExecutableElement method : calls.keySet()) {
            boolean isPublic = method.getModifiers().contains(Modifier.PUBLIC);
            boolean isMade = method.getKind() == ElementKind.CONSTRUCTOR;
            due.holds("rule 1: " + method + " bears a name of its own", isPublic || isMade
                || !face.contains(method.getSimpleName().toString()));
        }
    }

    private void depths() {
        Map<ExecutableElement, Integer> known = new HashMap<>();
        for (ExecutableElement method : calls.keySet()) {
            int depth = depthOf(method, new HashSet<>(), known);
            due.holds("rule 11: calls within " + method + " go " + depth + " deep", depth <= 8);
        }
    }

    private int depthOf(ExecutableElement method, Set<ExecutableElement> above, Map<ExecutableElement, Integer> known) {
        if (known.containsKey(method)) {
            return known.get(method);
        }
        due.holds("rule 8: " + method + " does not call itself", above.add(method));
        int deepest = 0;
        for (ExecutableElement called : calls.getOrDefault(method, Set.of())) {
            deepest = above.contains(called) ? 1000 : Math.max(deepest, depthOf(called, above, known));
        }
        above.remove(method);
        known.put(method, deepest + 1);
        return deepest + 1;
    }
}
