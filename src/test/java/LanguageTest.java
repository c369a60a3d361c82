import com.sun.source.tree.ArrayTypeTree;
import com.sun.source.tree.AssertTree;
import com.sun.source.tree.BinaryTree;
import com.sun.source.tree.BlockTree;
import com.sun.source.tree.ClassTree;
import com.sun.source.tree.CompilationUnitTree;
import com.sun.source.tree.DoWhileLoopTree;
import com.sun.source.tree.ExpressionTree;
import com.sun.source.tree.ForLoopTree;
import com.sun.source.tree.IdentifierTree;
import com.sun.source.tree.LambdaExpressionTree;
import com.sun.source.tree.LiteralTree;
import com.sun.source.tree.MemberReferenceTree;
import com.sun.source.tree.MemberSelectTree;
import com.sun.source.tree.MethodInvocationTree;
import com.sun.source.tree.MethodTree;
import com.sun.source.tree.NewArrayTree;
import com.sun.source.tree.NewClassTree;
import com.sun.source.tree.PrimitiveTypeTree;
import com.sun.source.tree.SynchronizedTree;
import com.sun.source.tree.ThrowTree;
import com.sun.source.tree.Tree;
import com.sun.source.tree.TryTree;
import com.sun.source.tree.TypeCastTree;
import com.sun.source.tree.UnaryTree;
import com.sun.source.tree.VariableTree;
import com.sun.source.tree.WhileLoopTree;
import com.sun.source.util.JavacTask;
import com.sun.source.util.SourcePositions;
import com.sun.source.util.TreePath;
import com.sun.source.util.TreePathScanner;
import com.sun.source.util.Trees;
import java.io.IOException;
import java.util.ArrayList;
import java.util.List;
import java.util.Map;
import java.util.Set;
import java.util.TreeMap;
import java.util.TreeSet;
import javax.lang.model.element.Modifier;
import javax.tools.JavaCompiler;
import javax.tools.StandardJavaFileManager;
import javax.tools.ToolProvider;

/**
 * The class keeps to ../shared/LANGUAGE.md, as far as that can be read from its text. Where a rule leaves more than the
 * class needs (try, lists, texts), the test leaves what the class needs.
 */
public final class LanguageTest extends TreePathScanner<Void, Void> {
    private static final Set<String> LIBRARY = Set.of("Math.min", "System.arraycopy");
    private static final Set<String> THROWN = Set.of("IndexOutOfBoundsException", "IllegalStateException");
    private static final Set<String> LIBRARY_TYPES = Set.of("Math", "System", "String");
    private static final int MOST_LINES = 60, MOST_PARAMETERS = 7, MOST_CLASSES = 12, MOST_FIELDS = 20, MOST_DEEP = 8;
    private static final Check c = new Check("LanguageTest");

    private final CompilationUnitTree unit;
    private final SourcePositions positions;
    private final Set<String> ownTypes = new TreeSet<>();
    /** What each method calls of the class's own, by names: a name of two methods stands for both. */
    private final Map<String, Set<String>> calls = new TreeMap<>();

    private LanguageTest(CompilationUnitTree unit, SourcePositions positions) {
        this.unit = unit;
        this.positions = positions;
    }

    public static void main(String[] args) throws IOException {
        JavaCompiler compiler = ToolProvider.getSystemJavaCompiler();
        try (StandardJavaFileManager files = compiler.getStandardFileManager(null, null, null)) {
            JavacTask task = (JavacTask) compiler.getTask(null, files, null, List.of("-proc:none"), null,
                files.getJavaFileObjects(Project.program()));
            for (CompilationUnitTree unit : task.parse()) {
                new LanguageTest(unit, Trees.instance(task).getSourcePositions()).look();
            }
        }
        c.end();
    }

    private void look() {
        holds(unit.getPackageName() == null && unit.getImports().isEmpty(), "no package, no import", unit);
        c.due(1, unit.getTypeDecls().size());
        meetNames(unit.getTypeDecls().get(0));
        c.due(ownTypes.size() <= MOST_CLASSES, "some twelve classes: " + ownTypes);
        scan(unit, null);
        for (String method : calls.keySet()) {
            deepness(method, new ArrayList<>());
        }
    }

    private void meetNames(Tree tree) {
        ClassTree type = (ClassTree) tree;
        ownTypes.add(type.getSimpleName().toString());
        for (Tree member : type.getMembers()) {
            if (member instanceof ClassTree) {
                meetNames(member);
            } else if (member instanceof MethodTree) {
                calls.putIfAbsent(((MethodTree) member).getName().toString(), new TreeSet<>());
            }
        }
    }

    private void holds(boolean so, String rule, Tree where) {
        long line = unit.getLineMap().getLineNumber(positions.getStartPosition(unit, where));
        c.due(so, "line " + line + ": " + rule);
    }

    /** How many calls stand open at once below a method; one that is open already would be a recursion. */
    private int deepness(String method, List<String> open) {
        boolean fresh = !open.contains(method);
        c.due(fresh, "rule 8: no recursion: " + open + " " + method);
        open.add(method);
        c.due(open.size() <= MOST_DEEP, "rule 11: calls at most eight deep: " + open);
        int most = 0;
        for (String called : fresh ? calls.get(method) : Set.<String>of()) {
            most = Math.max(most, deepness(called, open));
        }
        open.remove(open.size() - 1);
        return most + 1;
    }

    private MethodTree methodAround() {
        for (TreePath path = getCurrentPath(); path != null; path = path.getParentPath()) {
            if (path.getLeaf() instanceof MethodTree) {
                return (MethodTree) path.getLeaf();
            }
        }
        return null;
    }

    // ---- rules 1, 2, 5, 11: classes, fields, methods

    @Override
    public Void visitClass(ClassTree type, Void nothing) {
        Set<Modifier> flags = type.getModifiers().getFlags();
        boolean outermost = getCurrentPath().getParentPath().getLeaf() == unit;
        if (outermost) {
            holds(flags.equals(Set.of(Modifier.PUBLIC, Modifier.FINAL)), "rule 1: public and final", type);
        } else {
            boolean inside = getCurrentPath().getParentPath().getLeaf() instanceof ClassTree;
            holds(inside && flags.contains(Modifier.STATIC) && flags.contains(Modifier.PRIVATE), "rule 2", type);
        }
        int fields = 0;
        for (Tree member : type.getMembers()) {
            boolean field = member instanceof VariableTree;
            boolean constant = field && ((VariableTree) member).getModifiers().getFlags().contains(Modifier.STATIC);
            fields += field && !constant ? 1 : 0;
            holds(!(member instanceof BlockTree), "rule 5: no initialiser block", member);
        }
        holds(fields <= MOST_FIELDS, "rule 11: some twenty fields: " + fields, type);
        return super.visitClass(type, nothing);
    }

    @Override
    public Void visitMethod(MethodTree method, Void nothing) {
        long first = unit.getLineMap().getLineNumber(positions.getStartPosition(unit, method));
        long last = unit.getLineMap().getLineNumber(positions.getEndPosition(unit, method));
        holds(last - first < MOST_LINES, "rule 11: methods stay short", method);
        holds(method.getParameters().size() <= MOST_PARAMETERS, "rule 11: at most seven parameters", method);
        String name = method.getName().toString();
        holds(!Set.of("equals", "hashCode", "toString").contains(name), "rule 6: no " + name, method);
        return super.visitMethod(method, nothing);
    }

    @Override
    public Void visitVariable(VariableTree variable, Void nothing) {
        Set<Modifier> flags = variable.getModifiers().getFlags();
        if (flags.contains(Modifier.STATIC)) {
            boolean constant = flags.contains(Modifier.FINAL) && variable.getInitializer() != null
                && variable.getType() instanceof PrimitiveTypeTree;
            holds(constant, "rule 5: static fields are constants", variable);
        }
        Tree type = variable.getType();
        Tree element = type instanceof ArrayTypeTree ? ((ArrayTypeTree) type).getType() : type;
        boolean own = element instanceof IdentifierTree && ownTypes.contains(element.toString());
        holds(own || element instanceof PrimitiveTypeTree, "rule 3: types: " + type, variable);
        return super.visitVariable(variable, nothing);
    }

    @Override
    public Void visitPrimitiveType(PrimitiveTypeTree type, Void nothing) {
        holds(!Set.of("float", "double").contains(type.toString()), "rule 3: none that could be NaN", type);
        return null;
    }

    // ---- rules 4, 12: the library, and what is made

    @Override
    public Void visitMethodInvocation(MethodInvocationTree call, Void nothing) {
        ExpressionTree called = call.getMethodSelect();
        String name = called instanceof MemberSelectTree
            ? ((MemberSelectTree) called).getIdentifier().toString() : called.toString();
        boolean own = calls.containsKey(name);
        // the compiler's own call at the head of each constructor
        boolean ofObject = name.equals("super");
        holds(own || ofObject || LIBRARY.contains(called.toString()), "rule 4: not of the library: " + called, call);
        MethodTree around = methodAround();
        if (own && around != null) {
            calls.get(around.getName().toString()).add(name);
        }
        return super.visitMethodInvocation(call, nothing);
    }

    @Override
    public Void visitIdentifier(IdentifierTree name, Void nothing) {
        String text = name.getName().toString();
        boolean type = Character.isUpperCase(text.charAt(0)) && !text.equals(text.toUpperCase());
        boolean known = ownTypes.contains(text) || LIBRARY_TYPES.contains(text) || THROWN.contains(text);
        holds(!type || known, "rule 4: a type that is not told: " + text, name);
        return super.visitIdentifier(name, nothing);
    }

    @Override
    public Void visitNewClass(NewClassTree made, Void nothing) {
        boolean thrown = getCurrentPath().getParentPath().getLeaf() instanceof ThrowTree;
        holds(made.getClassBody() == null, "rule 2: no anonymous class", made);
        holds(thrown || madeOnce(), "rule 12: made with the object alone", made);
        return super.visitNewClass(made, nothing);
    }

    @Override
    public Void visitNewArray(NewArrayTree made, Void nothing) {
        holds(madeOnce(), "rule 12: made with the object alone", made);
        return super.visitNewArray(made, nothing);
    }

    private boolean madeOnce() {
        MethodTree around = methodAround();
        return around == null || around.getReturnType() == null;
    }

    // ---- rule 6: exceptions and casts

    @Override
    public Void visitThrow(ThrowTree thrown, Void nothing) {
        boolean made = thrown.getExpression() instanceof NewClassTree;
        holds(made, "rule 6: throw new E", thrown);
        if (made) {
            NewClassTree e = (NewClassTree) thrown.getExpression();
            holds(THROWN.contains(e.getIdentifier().toString()), "rule 6: what the document names", thrown);
            boolean written = e.getArguments().isEmpty()
                || e.getArguments().size() == 1 && e.getArguments().get(0) instanceof LiteralTree;
            holds(written, "rule 6: a written text", thrown);
        }
        MethodTree around = methodAround();
        holds(around != null && around.getName().contentEquals("reading"), "only reading() throws", thrown);
        return super.visitThrow(thrown, nothing);
    }

    @Override
    public Void visitTypeCast(TypeCastTree cast, Void nothing) {
        holds(cast.getType() instanceof PrimitiveTypeTree, "rule 6: no cast that could fail", cast);
        return super.visitTypeCast(cast, nothing);
    }

    @Override
    public Void visitTry(TryTree tree, Void nothing) {
        holds(false, "rule 6: no try is needed", tree);
        return super.visitTry(tree, nothing);
    }

    @Override
    public Void visitSynchronized(SynchronizedTree tree, Void nothing) {
        holds(false, "rule 6: no synchronized", tree);
        return super.visitSynchronized(tree, nothing);
    }

    @Override
    public Void visitAssert(AssertTree tree, Void nothing) {
        holds(false, "rule 6: no assert", tree);
        return super.visitAssert(tree, nothing);
    }

    @Override
    public Void visitLambdaExpression(LambdaExpressionTree tree, Void nothing) {
        holds(false, "rule 2: no lambda", tree);
        return super.visitLambdaExpression(tree, nothing);
    }

    @Override
    public Void visitMemberReference(MemberReferenceTree tree, Void nothing) {
        holds(false, "rule 2: no method reference", tree);
        return super.visitMemberReference(tree, nothing);
    }

    // ---- rules 7, 9, 10: divisors, loops, texts

    @Override
    public Void visitBinary(BinaryTree tree, Void nothing) {
        boolean text = isText(tree.getLeftOperand()) || isText(tree.getRightOperand());
        holds(!(text && tree.getKind() == Tree.Kind.PLUS), "rule 10: no joining by +", tree);
        boolean divides = tree.getKind() == Tree.Kind.DIVIDE || tree.getKind() == Tree.Kind.REMAINDER;
        boolean written = tree.getRightOperand() instanceof LiteralTree;
        // share() alone divides by what it was told, behind its question for 0
        holds(!divides || written || methodAround().getName().contentEquals("gramsForEach"), "rule 7: a divisor", tree);
        return super.visitBinary(tree, nothing);
    }

    private static boolean isText(ExpressionTree tree) {
        return tree instanceof LiteralTree && ((LiteralTree) tree).getValue() instanceof String;
    }

    @Override
    public Void visitForLoop(ForLoopTree loop, Void nothing) {
        boolean counts = loop.getUpdate().size() == 1 && loop.getUpdate().get(0).toString().matches("\\w+\\+\\+;");
        holds(counts && loop.getCondition() != null, "rule 9: a counter against a bound", loop);
        return super.visitForLoop(loop, nothing);
    }

    @Override
    public Void visitWhileLoop(WhileLoopTree loop, Void nothing) {
        Tree condition = loop.getCondition();
        boolean[] counts = new boolean[1];
        new TreePathScanner<Void, Void>() {
            @Override
            public Void visitUnary(UnaryTree unary, Void none) {
                boolean up = unary.getKind() == Tree.Kind.POSTFIX_INCREMENT;
                counts[0] |= up && condition.toString().contains(unary.getExpression() + " < ");
                return super.visitUnary(unary, none);
            }
        }.scan(new TreePath(getCurrentPath(), loop.getStatement()), null);
        holds(counts[0], "rule 9: a counter against a bound", loop);
        return super.visitWhileLoop(loop, nothing);
    }

    @Override
    public Void visitDoWhileLoop(DoWhileLoopTree loop, Void nothing) {
        holds(false, "rule 9: no do is needed", loop);
        return super.visitDoWhileLoop(loop, nothing);
    }
}
