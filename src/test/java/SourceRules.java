import com.sun.source.tree.AssertTree;
import com.sun.source.tree.AssignmentTree;
import com.sun.source.tree.BinaryTree;
import com.sun.source.tree.ClassTree;
import com.sun.source.tree.CompilationUnitTree;
import com.sun.source.tree.ExpressionTree;
import com.sun.source.tree.ForLoopTree;
import com.sun.source.tree.IdentifierTree;
import com.sun.source.tree.LambdaExpressionTree;
import com.sun.source.tree.LiteralTree;
import com.sun.source.tree.MemberReferenceTree;
import com.sun.source.tree.MemberSelectTree;
import com.sun.source.tree.MethodInvocationTree;
import com.sun.source.tree.MethodTree;
import com.sun.source.tree.NewArrayTree;
import com.sun.source.tree.NewClassTree;
import com.sun.source.tree.SynchronizedTree;
import com.sun.source.tree.ThrowTree;
import com.sun.source.tree.Tree;
import com.sun.source.tree.TryTree;
import com.sun.source.tree.TypeCastTree;
import com.sun.source.tree.VariableTree;
import com.sun.source.tree.WhileLoopTree;
import com.sun.source.util.TreeScanner;
import java.util.ArrayDeque;
import java.util.ArrayList;
import java.util.Deque;
import java.util.List;
import java.util.Map;
import java.util.Set;
import java.util.TreeMap;
import java.util.TreeSet;
import javax.lang.model.element.Modifier;

/** Walks through the class's source, notes what is against the rules of ../shared/LANGUAGE.md, and counts. */
final class SourceRules extends TreeScanner<Void, Void> {
    private static final Set<String> EXCEPTIONS = Set.of("IllegalStateException", "IllegalArgumentException",
        "IndexOutOfBoundsException", "ArithmeticException", "UnsupportedOperationException",
        "NoSuchElementException");
    private static final Set<String> CONSTANT_TYPES = Set.of("int", "long", "boolean", "char", "String");
    private static final Set<String> LIBRARY = Set.of("Math.min", "Math.max", "Integer.bitCount");

    final List<String> faults = new ArrayList<>();
    final Set<String> classes = new TreeSet<>();
    final Map<String, Integer> fieldsOf = new TreeMap<>();
    final Map<String, Integer> parametersOf = new TreeMap<>();
    final Map<String, Integer> linesOf = new TreeMap<>();
    final Map<String, List<String>> callsOf = new TreeMap<>();
    int methods;
    int thrown;

    private final CompilationUnitTree unit;
    private final Deque<String> within = new ArrayDeque<>();
    private String method = "";

    SourceRules(CompilationUnitTree unit) {
        this.unit = unit;
    }

    private void fault(String rule, Tree tree) {
        String text = tree.toString().trim();
        faults.add("rule " + rule + ": " + text.substring(0, Math.min(text.length(), 70)));
    }

    @Override
    public Void visitClass(ClassTree tree, Void nothing) {
        Set<Modifier> flags = tree.getModifiers().getFlags();
        boolean isOuter = within.isEmpty();
        if (isOuter != flags.contains(Modifier.PUBLIC) || flags.contains(Modifier.PROTECTED)) {
            fault("1", tree);
        }
        if (!isOuter && !flags.contains(Modifier.STATIC) || !method.isEmpty() || tree.getExtendsClause() != null) {
            fault("2", tree);
        }
        String name = tree.getSimpleName().toString();
        classes.add(name);
        fieldsOf.put(name, 0);
        for (Tree member : tree.getMembers()) {
            if (member.getKind() == Tree.Kind.BLOCK) {
                fault("5", member);
            }
            if (member instanceof VariableTree) {
                field(name, (VariableTree) member);
            }
        }
        within.push(name);
        super.visitClass(tree, nothing);
        within.pop();
        return null;
    }

    private void field(String owner, VariableTree tree) {
        Set<Modifier> flags = tree.getModifiers().getFlags();
        if (!flags.contains(Modifier.STATIC)) {
            fieldsOf.merge(owner, 1, Integer::sum);
            return;
        }
        boolean isConstant = flags.contains(Modifier.FINAL) && CONSTANT_TYPES.contains(tree.getType().toString())
            && tree.getInitializer() instanceof LiteralTree;
        boolean isNone = tree.toString().endsWith("= -1");
        if (!isConstant && !isNone) {
            fault("5", tree);
        }
    }

    @Override
    public Void visitMethod(MethodTree tree, Void nothing) {
        String name = tree.getName().toString();
        boolean isConstructor = name.equals("<init>");
        method = isConstructor ? within.peek() : name;
        methods++;
        parametersOf.put(method, tree.getParameters().size());
        linesOf.put(method, tree.getBody().toString().split("\n").length);
        callsOf.put(method, new ArrayList<>());
        super.visitMethod(tree, nothing);
        method = "";
        return null;
    }

    @Override
    public Void visitMethodInvocation(MethodInvocationTree tree, Void nothing) {
        ExpressionTree called = tree.getMethodSelect();
        if (called instanceof MemberSelectTree) {
            MemberSelectTree select = (MemberSelectTree) called;
            boolean isOfLibrary = Character.isUpperCase(select.getExpression().toString().charAt(0));
            if (isOfLibrary && !LIBRARY.contains(select.toString())) {
                fault("4", tree);
            }
            callsOf.get(method).add(isOfLibrary ? select.toString() : select.getIdentifier().toString());
        } else {
            callsOf.get(method).add(((IdentifierTree) called).getName().toString());
        }
        return super.visitMethodInvocation(tree, nothing);
    }

    @Override
    public Void visitThrow(ThrowTree tree, Void nothing) {
        thrown++;
        boolean isNew = tree.getExpression() instanceof NewClassTree;
        NewClassTree made = isNew ? (NewClassTree) tree.getExpression() : null;
        if (made == null || !EXCEPTIONS.contains(made.getIdentifier().toString())
                || classes.contains(method)
                || made.getArguments().size() > 1
                || made.getArguments().size() == 1 && !(made.getArguments().get(0) instanceof LiteralTree)) {
            fault("6", tree);
        }
        return super.visitThrow(tree, nothing);
    }

    @Override
    public Void visitNewClass(NewClassTree tree, Void nothing) {
        String name = tree.getIdentifier().toString();
        boolean isOwn = classes.contains(name) || isInside(name);
        if (tree.getClassBody() != null || !isOwn && !EXCEPTIONS.contains(name)) {
            fault("2, 4", tree);
        }
        // Not a rule of the page, but what the notes promise: nothing is made but with the office itself.
        if (isOwn && !method.isEmpty() && !classes.contains(method)) {
            fault("12", tree);
        }
        return super.visitNewClass(tree, nothing);
    }

    private boolean isInside(String name) {
        for (Tree member : ((ClassTree) unit.getTypeDecls().get(0)).getMembers()) {
            if (member instanceof ClassTree && ((ClassTree) member).getSimpleName().contentEquals(name)) {
                return true;
            }
        }
        return false;
    }

    @Override
    public Void visitNewArray(NewArrayTree tree, Void nothing) {
        if (!method.isEmpty() || tree.getDimensions().size() != 1) {
            fault("3, 12", tree);
        }
        return super.visitNewArray(tree, nothing);
    }

    @Override
    public Void visitVariable(VariableTree tree, Void nothing) {
        String type = tree.getType() == null ? "var" : tree.getType().toString().replace("[]", "");
        Set<String> numbers = Set.of("int", "long", "char", "boolean");
        if (!numbers.contains(type) && !classes.contains(type) && !isInside(type)) {
            fault("3", tree);
        }
        return super.visitVariable(tree, nothing);
    }

    @Override
    public Void visitTypeCast(TypeCastTree tree, Void nothing) {
        // Casts among classes need a test ahead; there are none but of numbers.
        if (!Set.of("int", "long", "float", "double", "char").contains(tree.getType().toString())) {
            fault("6", tree);
        }
        return super.visitTypeCast(tree, nothing);
    }

    @Override
    public Void visitForLoop(ForLoopTree tree, Void nothing) {
        if (tree.getCondition() == null) {
            fault("9", tree);
        }
        return super.visitForLoop(tree, nothing);
    }

    @Override
    public Void visitWhileLoop(WhileLoopTree tree, Void nothing) {
        if (!tree.getCondition().toString().contains("<") && !tree.getCondition().toString().contains(">")) {
            fault("9", tree);
        }
        return super.visitWhileLoop(tree, nothing);
    }

    @Override
    public Void visitBinary(BinaryTree tree, Void nothing) {
        boolean isText = tree.getLeftOperand().getKind() == Tree.Kind.STRING_LITERAL
            || tree.getRightOperand().getKind() == Tree.Kind.STRING_LITERAL;
        if (isText) {
            fault("10", tree);
        }
        return super.visitBinary(tree, nothing);
    }

    @Override
    public Void visitAssignment(AssignmentTree tree, Void nothing) {
        String name = tree.getVariable().toString();
        if (name.equals(name.toUpperCase())) {
            fault("5", tree);
        }
        return super.visitAssignment(tree, nothing);
    }

    /** No exception is caught at all, so none of the machine's is. */
    @Override
    public Void visitTry(TryTree tree, Void nothing) {
        fault("6", tree);
        return super.visitTry(tree, nothing);
    }

    @Override
    public Void visitLambdaExpression(LambdaExpressionTree tree, Void nothing) {
        fault("2", tree);
        return super.visitLambdaExpression(tree, nothing);
    }

    @Override
    public Void visitMemberReference(MemberReferenceTree tree, Void nothing) {
        fault("2", tree);
        return super.visitMemberReference(tree, nothing);
    }

    @Override
    public Void visitSynchronized(SynchronizedTree tree, Void nothing) {
        fault("6", tree);
        return super.visitSynchronized(tree, nothing);
    }

    @Override
    public Void visitAssert(AssertTree tree, Void nothing) {
        fault("6", tree);
        return super.visitAssert(tree, nothing);
    }
}
