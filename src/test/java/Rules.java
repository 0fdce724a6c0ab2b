import com.sun.source.tree.ArrayAccessTree;
import com.sun.source.tree.AssertTree;
import com.sun.source.tree.BinaryTree;
import com.sun.source.tree.BlockTree;
import com.sun.source.tree.ClassTree;
import com.sun.source.tree.CompilationUnitTree;
import com.sun.source.tree.CompoundAssignmentTree;
import com.sun.source.tree.ConditionalExpressionTree;
import com.sun.source.tree.DoWhileLoopTree;
import com.sun.source.tree.ExpressionTree;
import com.sun.source.tree.ForLoopTree;
import com.sun.source.tree.IdentifierTree;
import com.sun.source.tree.IfTree;
import com.sun.source.tree.ImportTree;
import com.sun.source.tree.LambdaExpressionTree;
import com.sun.source.tree.LiteralTree;
import com.sun.source.tree.MemberReferenceTree;
import com.sun.source.tree.MethodInvocationTree;
import com.sun.source.tree.MethodTree;
import com.sun.source.tree.NewArrayTree;
import com.sun.source.tree.NewClassTree;
import com.sun.source.tree.ParenthesizedTree;
import com.sun.source.tree.SwitchTree;
import com.sun.source.tree.SynchronizedTree;
import com.sun.source.tree.ThrowTree;
import com.sun.source.tree.Tree;
import com.sun.source.tree.TryTree;
import com.sun.source.tree.TypeCastTree;
import com.sun.source.tree.UnaryTree;
import com.sun.source.tree.VariableTree;
import com.sun.source.tree.WhileLoopTree;
import com.sun.source.util.JavacTask;
import com.sun.source.util.TreePath;
import com.sun.source.util.TreePathScanner;
import com.sun.source.util.Trees;
import java.io.IOException;
import java.net.URI;
import java.util.ArrayList;
import java.util.HashMap;
import java.util.HashSet;
import java.util.LinkedHashMap;
import java.util.LinkedHashSet;
import java.util.List;
import java.util.Map;
import java.util.Set;
import javax.lang.model.element.Element;
import javax.lang.model.element.ElementKind;
import javax.lang.model.element.Modifier;
import javax.lang.model.element.VariableElement;
import javax.lang.model.type.TypeMirror;
import javax.tools.JavaCompiler;
import javax.tools.JavaFileObject;
import javax.tools.SimpleJavaFileObject;
import javax.tools.ToolProvider;

/**
 * Looks for what is outside the rules of ../shared/LANGUAGE.md, in the tree that the compiler makes of
 * a source. It is narrower than the rules: what StringShades has no need of (lists, own generic
 * classes, enums) is told as a fault, too.
 */
final class Rules extends TreePathScanner<Void, Void> {
    private static final int MOST_CLASSES = 12;
    private static final int MOST_FIELDS = 20;
    private static final int MOST_PARAMETERS = 7;
    private static final int MOST_LINES = 60;
    private static final int DEEPEST_CALLS = 8;
    private static final Set<String> LIBRARY = Set.of("java.lang.String.length", "java.lang.String.charAt",
            "java.lang.String.isEmpty", "java.lang.System.arraycopy", "java.lang.Math.abs", "java.lang.Math.min",
            "java.lang.Math.max", "java.lang.Math.floorDiv", "java.lang.Math.floorMod", "java.lang.Integer.bitCount");
    private static final String NUMBERS = "int|long|short|byte|char|boolean";
    private static final Set<Tree.Kind> COMPARISONS = Set.of(Tree.Kind.LESS_THAN, Tree.Kind.LESS_THAN_EQUAL,
            Tree.Kind.GREATER_THAN, Tree.Kind.GREATER_THAN_EQUAL);

    private final Set<String> faults = new LinkedHashSet<>();
    private final Map<Element, Set<Element>> calls = new LinkedHashMap<>();
    private final Set<String> ownClasses = new HashSet<>();
    private Trees trees;
    private CompilationUnitTree unit;
    private Element inMethod;
    private Set<Element> tested = Set.of();
    private int loops = 0;

    private Rules() {
    }

    /** The faults of a source, each with the rule's number first: "6: throw in line 12". */
    static Set<String> faultsOf(String name, String source) throws IOException {
        JavaCompiler compiler = ToolProvider.getSystemJavaCompiler();
        JavaFileObject file = new SimpleJavaFileObject(URI.create("string:///" + name + ".java"),
                JavaFileObject.Kind.SOURCE) {
            @Override
            public CharSequence getCharContent(boolean ignored) {
                return source;
            }
        };
        JavacTask task = (JavacTask) compiler.getTask(null, null, problem -> { }, List.of("-proc:none"), null,
                List.of(file));
        Rules rules = new Rules();
        rules.unit = task.parse().iterator().next();
        task.analyze();
        rules.trees = Trees.instance(task);
        rules.signs(source);
        rules.scan(rules.unit, null);
        rules.followCalls();
        return rules.faults;
    }

    private void fault(int rule, String what, Tree where) {
        long line = unit.getLineMap().getLineNumber(trees.getSourcePositions().getStartPosition(unit, where));
        faults.add(rule + ": " + what + " in line " + line);
    }

    private Element elementOf(Tree tree) {
        return trees.getElement(new TreePath(getCurrentPath(), tree));
    }

    private String typeOf(Tree tree) {
        TypeMirror type = trees.getTypeMirror(new TreePath(getCurrentPath(), tree));
        return type == null ? "void" : type.toString();
    }

    private void signs(String source) {
        if (!source.chars().allMatch(sign -> sign > 0 && sign < 128)) {
            faults.add("4: a sign that is not from 1 to 127");
        }
    }

    // ---- classes and their members

    @Override
    public Void visitImport(ImportTree tree, Void nothing) {
        fault(4, "an import", tree);
        return null;
    }

    @Override
    public Void visitClass(ClassTree tree, Void nothing) {
        Element element = trees.getElement(getCurrentPath());
        ownClasses.add(element.toString());
        if (ownClasses.size() > MOST_CLASSES) {
            fault(11, "one class more than " + MOST_CLASSES, tree);
        }
        boolean isInside = element.getEnclosingElement().getKind() == ElementKind.CLASS;
        if (inMethod != null || isInside && !element.getModifiers().contains(Modifier.STATIC)) {
            fault(2, "a class that is not static", tree);
        }
        if (tree.getKind() != Tree.Kind.CLASS) {
            fault(2, "no plain class", tree);
        }
        int fields = 0;
        for (Tree member : tree.getMembers()) {
            if (member instanceof VariableTree && !isStatic((VariableTree) member)) {
                fields++;
            }
            if (member instanceof BlockTree && ((BlockTree) member).isStatic()) {
                fault(5, "a static initialiser block", member);
            }
        }
        if (fields > MOST_FIELDS) {
            fault(11, fields + " fields", tree);
        }
        return super.visitClass(tree, nothing);
    }

    private static boolean isStatic(VariableTree field) {
        return field.getModifiers().getFlags().contains(Modifier.STATIC);
    }

    @Override
    public Void visitVariable(VariableTree tree, Void nothing) {
        String type = typeOf(tree);
        if (!isOwn(type) && !type.matches("(" + NUMBERS + ")(\\[\\])?") && !type.equals("java.lang.String")) {
            fault(3, "the type " + type, tree);
        }
        if (isStatic(tree)) {
            boolean isFinal = tree.getModifiers().getFlags().contains(Modifier.FINAL);
            if (!isFinal || tree.getInitializer() == null || !isConstant(tree.getInitializer())) {
                fault(5, "a static field that is no constant", tree);
            }
        }
        return super.visitVariable(tree, nothing);
    }

    private boolean isOwn(String type) {
        return type.equals("StringShades") || type.startsWith("StringShades.");
    }

    @Override
    public Void visitMethod(MethodTree tree, Void nothing) {
        Element element = trees.getElement(getCurrentPath());
        calls.putIfAbsent(element, new LinkedHashSet<>());
        if (tree.getParameters().size() > MOST_PARAMETERS) {
            fault(11, tree.getParameters().size() + " parameters", tree);
        }
        if (!tree.getThrows().isEmpty()) {
            fault(6, "throws", tree);
        }
        long start = trees.getSourcePositions().getStartPosition(unit, tree);
        long end = trees.getSourcePositions().getEndPosition(unit, tree);
        if (end >= 0 && unit.getLineMap().getLineNumber(end) - unit.getLineMap().getLineNumber(start) >= MOST_LINES) {
            fault(11, "a long method", tree);
        }
        inMethod = element;
        tested = new HashSet<>();
        new Conditions().scan(getCurrentPath(), null);
        super.visitMethod(tree, nothing);
        inMethod = null;
        tested = Set.of();
        return null;
    }

    /** The variables that a method's conditions look at; rule 7 wants an index to be among them. */
    private final class Conditions extends TreePathScanner<Void, Void> {
        private int inside = 0;

        private void within(Tree condition) {
            inside++;
            scan(condition, null);
            inside--;
        }

        @Override
        public Void visitIf(IfTree tree, Void nothing) {
            within(tree.getCondition());
            return super.visitIf(tree, nothing);
        }

        @Override
        public Void visitConditionalExpression(ConditionalExpressionTree tree, Void nothing) {
            within(tree.getCondition());
            return super.visitConditionalExpression(tree, nothing);
        }

        @Override
        public Void visitForLoop(ForLoopTree tree, Void nothing) {
            if (tree.getCondition() != null) {
                within(tree.getCondition());
            }
            return super.visitForLoop(tree, nothing);
        }

        @Override
        public Void visitIdentifier(IdentifierTree tree, Void nothing) {
            if (inside > 0) {
                tested.add(trees.getElement(getCurrentPath()));
            }
            return super.visitIdentifier(tree, nothing);
        }
    }

    // ---- what is not there at all

    @Override
    public Void visitThrow(ThrowTree tree, Void nothing) {
        fault(6, "throw", tree);
        return super.visitThrow(tree, nothing);
    }

    @Override
    public Void visitTry(TryTree tree, Void nothing) {
        fault(6, "try", tree);
        return super.visitTry(tree, nothing);
    }

    @Override
    public Void visitSynchronized(SynchronizedTree tree, Void nothing) {
        fault(6, "synchronized", tree);
        return super.visitSynchronized(tree, nothing);
    }

    @Override
    public Void visitAssert(AssertTree tree, Void nothing) {
        fault(6, "assert", tree);
        return super.visitAssert(tree, nothing);
    }

    @Override
    public Void visitLambdaExpression(LambdaExpressionTree tree, Void nothing) {
        fault(2, "a lambda", tree);
        return super.visitLambdaExpression(tree, nothing);
    }

    @Override
    public Void visitMemberReference(MemberReferenceTree tree, Void nothing) {
        fault(2, "a method reference", tree);
        return super.visitMemberReference(tree, nothing);
    }

    // ---- expressions

    @Override
    public Void visitBinary(BinaryTree tree, Void nothing) {
        String left = typeOf(tree.getLeftOperand());
        String right = typeOf(tree.getRightOperand());
        switch (tree.getKind()) {
            case PLUS:
                if (typeOf(tree).equals("java.lang.String")) {
                    fault(10, "texts joined by +", tree);
                }
                break;
            case DIVIDE:
            case REMAINDER:
                divisor(tree.getRightOperand());
                break;
            case EQUAL_TO:
            case NOT_EQUAL_TO:
                if (left.equals("java.lang.String") && right.equals("java.lang.String")) {
                    fault(6, "texts compared by their reference", tree);
                }
                break;
            default:
                break;
        }
        return super.visitBinary(tree, nothing);
    }

    @Override
    public Void visitCompoundAssignment(CompoundAssignmentTree tree, Void nothing) {
        if (typeOf(tree.getVariable()).equals("java.lang.String")) {
            fault(10, "texts joined by +=", tree);
        }
        if (tree.getKind() == Tree.Kind.DIVIDE_ASSIGNMENT || tree.getKind() == Tree.Kind.REMAINDER_ASSIGNMENT) {
            divisor(tree.getExpression());
        }
        return super.visitCompoundAssignment(tree, nothing);
    }

    private void divisor(ExpressionTree divisor) {
        if (!isConstant(divisor) || divisor.toString().equals("0")) {
            fault(7, "a divisor that may be 0", divisor);
        }
    }

    @Override
    public Void visitArrayAccess(ArrayAccessTree tree, Void nothing) {
        lookedAt(tree.getIndex());
        return super.visitArrayAccess(tree, nothing);
    }

    private void lookedAt(ExpressionTree index) {
        if (!isConstant(index)) {
            Set<Element> variables = variablesIn(index);
            if (variables.isEmpty() || !tested.containsAll(variables)) {
                fault(7, "the index " + index + ", which no condition looks at,", index);
            }
        }
    }

    private Set<Element> variablesIn(ExpressionTree expression) {
        Set<Element> variables = new HashSet<>();
        new TreePathScanner<Void, Void>() {
            @Override
            public Void visitIdentifier(IdentifierTree tree, Void nothing) {
                Element element = trees.getElement(getCurrentPath());
                if (element instanceof VariableElement && ((VariableElement) element).getConstantValue() == null) {
                    variables.add(element);
                }
                return null;
            }
        }.scan(new TreePath(getCurrentPath(), expression), null);
        return variables;
    }

    private boolean isConstant(ExpressionTree expression) {
        if (expression instanceof ParenthesizedTree) {
            return isConstant(((ParenthesizedTree) expression).getExpression());
        }
        if (expression instanceof LiteralTree) {
            return ((LiteralTree) expression).getValue() != null;
        }
        if (expression instanceof BinaryTree) {
            BinaryTree binary = (BinaryTree) expression;
            return isConstant(binary.getLeftOperand()) && isConstant(binary.getRightOperand());
        }
        if (expression instanceof UnaryTree) {
            ExpressionTree inside = ((UnaryTree) expression).getExpression();
            return expression.getKind() == Tree.Kind.UNARY_MINUS && isConstant(inside);
        }
        if (expression instanceof TypeCastTree) {
            return isConstant(((TypeCastTree) expression).getExpression());
        }
        Element element = elementOf(expression);
        return element instanceof VariableElement && ((VariableElement) element).getConstantValue() != null;
    }

    @Override
    public Void visitTypeCast(TypeCastTree tree, Void nothing) {
        if (!typeOf(tree).matches(NUMBERS)) {
            fault(6, "a cast to " + typeOf(tree), tree);
        }
        return super.visitTypeCast(tree, nothing);
    }

    @Override
    public Void visitNewArray(NewArrayTree tree, Void nothing) {
        noneInLoop(tree);
        for (ExpressionTree length : tree.getDimensions()) {
            if (!isConstant(length)) {
                fault(7, "an array of the length " + length, tree);
            }
        }
        return super.visitNewArray(tree, nothing);
    }

    @Override
    public Void visitNewClass(NewClassTree tree, Void nothing) {
        noneInLoop(tree);
        if (tree.getClassBody() != null) {
            fault(2, "a class without a name", tree);
        }
        if (!isOwn(typeOf(tree))) {
            fault(4, "a new " + typeOf(tree), tree);
        }
        return super.visitNewClass(tree, nothing);
    }

    private void noneInLoop(Tree tree) {
        if (loops > 0) {
            fault(12, "an object made in a loop", tree);
        }
    }

    @Override
    public Void visitSwitch(SwitchTree tree, Void nothing) {
        if (!typeOf(tree.getExpression()).matches(NUMBERS)) {
            fault(10, "a switch on " + typeOf(tree.getExpression()), tree);
        }
        return super.visitSwitch(tree, nothing);
    }

    // ---- loops: a counter against a bound, which the loop itself moves on

    @Override
    public Void visitForLoop(ForLoopTree tree, Void nothing) {
        loop(tree.getCondition(), tree);
        loops++;
        super.visitForLoop(tree, nothing);
        loops--;
        return null;
    }

    @Override
    public Void visitWhileLoop(WhileLoopTree tree, Void nothing) {
        loop(tree.getCondition(), tree);
        loops++;
        super.visitWhileLoop(tree, nothing);
        loops--;
        return null;
    }

    @Override
    public Void visitDoWhileLoop(DoWhileLoopTree tree, Void nothing) {
        loop(tree.getCondition(), tree);
        loops++;
        super.visitDoWhileLoop(tree, nothing);
        loops--;
        return null;
    }

    private void loop(ExpressionTree condition, Tree whole) {
        Set<String> compared = new HashSet<>();
        Set<String> moved = new HashSet<>();
        new TreePathScanner<Void, Void>() {
            @Override
            public Void visitBinary(BinaryTree tree, Void nothing) {
                if (COMPARISONS.contains(tree.getKind()) && tree.getLeftOperand() instanceof IdentifierTree) {
                    compared.add(tree.getLeftOperand().toString());
                }
                // a counter counts only if nothing else can keep the loop going
                return tree.getKind() == Tree.Kind.CONDITIONAL_OR ? null : super.visitBinary(tree, nothing);
            }
        }.scan(new TreePath(getCurrentPath(), condition == null ? whole : condition), null);
        new TreePathScanner<Void, Void>() {
            @Override
            public Void visitUnary(UnaryTree tree, Void nothing) {
                if (tree.getKind() == Tree.Kind.POSTFIX_INCREMENT || tree.getKind() == Tree.Kind.POSTFIX_DECREMENT) {
                    moved.add(tree.getExpression().toString());
                }
                return super.visitUnary(tree, nothing);
            }
        }.scan(getCurrentPath(), null);
        compared.retainAll(moved);
        if (condition == null || compared.isEmpty()) {
            fault(9, "a loop without a counter against a bound", whole);
        }
    }

    // ---- calls

    @Override
    public Void visitMethodInvocation(MethodInvocationTree tree, Void nothing) {
        Element called = elementOf(tree.getMethodSelect());
        if (called == null) {
            return super.visitMethodInvocation(tree, nothing);
        }
        String owner = called.getEnclosingElement().toString();
        String name = owner + "." + called.getSimpleName();
        if (isOwn(owner)) {
            calls.computeIfAbsent(inMethod, ignored -> new LinkedHashSet<>()).add(called);
        } else if (!LIBRARY.contains(name) && called.getKind() != ElementKind.CONSTRUCTOR) {
            fault(4, name, tree);
        }
        if (name.equals("java.lang.System.arraycopy")) {
            for (int place : new int[] {1, 3, 4}) {
                lookedAt(tree.getArguments().get(place));
            }
        }
        return super.visitMethodInvocation(tree, nothing);
    }

    /** Rules 8 and 11: what calls itself is private and static, and other calls are not deep. */
    private void followCalls() {
        Map<Element, Integer> depths = new HashMap<>();
        for (Element method : calls.keySet()) {
            int depth = depthOf(method, depths, new ArrayList<>());
            if (depth > DEEPEST_CALLS) {
                faults.add("11: calls from " + method + " on go " + depth + " deep");
            }
        }
    }

    private int depthOf(Element method, Map<Element, Integer> depths, List<Element> open) {
        if (open.contains(method)) {
            boolean isPlain = open.get(open.size() - 1).equals(method)
                    && method.getModifiers().containsAll(Set.of(Modifier.PRIVATE, Modifier.STATIC));
            if (!isPlain) {
                faults.add("8: " + method + " comes to call itself");
            }
            return 0;
        }
        if (depths.containsKey(method)) {
            return depths.get(method);
        }
        open.add(method);
        int deepest = 0;
        for (Element called : calls.getOrDefault(method, Set.of())) {
            deepest = Math.max(deepest, depthOf(called, depths, open));
        }
        open.remove(open.size() - 1);
        depths.put(method, deepest + 1);
        return deepest + 1;
    }
}
