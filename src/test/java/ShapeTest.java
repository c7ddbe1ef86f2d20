import com.sun.source.tree.AssignmentTree;
import com.sun.source.tree.BinaryTree;
import com.sun.source.tree.BlockTree;
import com.sun.source.tree.ClassTree;
import com.sun.source.tree.CompoundAssignmentTree;
import com.sun.source.tree.ExpressionStatementTree;
import com.sun.source.tree.ExpressionTree;
import com.sun.source.tree.ForLoopTree;
import com.sun.source.tree.IdentifierTree;
import com.sun.source.tree.LiteralTree;
import com.sun.source.tree.MethodInvocationTree;
import com.sun.source.tree.MethodTree;
import com.sun.source.tree.NewArrayTree;
import com.sun.source.tree.NewClassTree;
import com.sun.source.tree.ParenthesizedTree;
import com.sun.source.tree.StatementTree;
import com.sun.source.tree.Tree;
import com.sun.source.tree.TypeCastTree;
import com.sun.source.tree.UnaryTree;
import com.sun.source.tree.VariableTree;
import com.sun.source.tree.WhileLoopTree;
import com.sun.source.util.TreePath;
import com.sun.source.util.TreePathScanner;
import com.sun.source.util.TreeScanner;
import java.io.IOException;
import java.nio.file.Path;
import java.util.ArrayList;
import java.util.EnumSet;
import java.util.List;
import java.util.Set;
import java.util.TreeSet;
import javax.lang.model.element.Element;
import javax.lang.model.element.ElementKind;
import javax.lang.model.element.Modifier;
import javax.lang.model.element.VariableElement;

/**
 * The rules of ../shared/LANGUAGE.md that words alone do not show. It leaves less than they do, just what the class
 * needs: who needs another type or more of the library than that, and finds it in rule 3 or 4, adds it here.
 */
public final class ShapeTest extends TreePathScanner<Void, Void> {
    private static final Set<String> TYPES = Set.of("int", "long", "boolean", "void", "int[]");
    private static final Set<String> LIBRARY = Set.of(
        "java.lang.Math.max(int,int)", "java.lang.Math.min(int,int)",
        "java.lang.System.arraycopy(java.lang.Object,int,java.lang.Object,int,int)", "java.lang.Object()");
    /** The one method that makes an object: the first one saved in each slot. All others are made with the office. */
    private static final Set<String> MAKERS = Set.of("GaleNames.Slots.keep(int,GaleNames.State)");
    private static final Set<Tree.Kind> REFUSED = EnumSet.of(
        Tree.Kind.LAMBDA_EXPRESSION, Tree.Kind.MEMBER_REFERENCE, Tree.Kind.THROW, Tree.Kind.TRY,
        Tree.Kind.SYNCHRONIZED, Tree.Kind.ASSERT, Tree.Kind.INSTANCE_OF, Tree.Kind.IMPORT, Tree.Kind.PACKAGE,
        Tree.Kind.ANNOTATION, Tree.Kind.DO_WHILE_LOOP, Tree.Kind.ENHANCED_FOR_LOOP, Tree.Kind.STRING_LITERAL);
    private static final int MOST_CALLS = 8, MOST_PARAMETERS = 7, MOST_FIELDS = 20, MOST_CLASSES = 12;
    private static final Due due = new Due();

    private final Source source;
    private final Calls calls = new Calls();
    private final Set<String> faceMethods = new TreeSet<>();
    private final Set<String> makers = new TreeSet<>();
    private int classes;

    private ShapeTest(Source source) {
        this.source = source;
    }

    public static void main(String[] args) throws IOException {
        due.promise(0, "LANGUAGE.md");
        Source source = Source.read(Path.of("src", "main", "java", "GaleNames.java"));
        ShapeTest shape = new ShapeTest(source);
        shape.scan(source.unit(), null);
        shape.sums();
        due.end();
    }

    private void sums() {
        holds("rule 11: " + classes + " classes", classes <= MOST_CLASSES);
        due.is("methods of the face and the constructor", faceMethods.size(), 30);
        for (String method : faceMethods) {
            int depth = calls.depth(method);
            holds("rules 8 and 11: " + method + " is " + depth + " calls deep", depth <= MOST_CALLS);
        }
        holds("rule 12: objects are made by " + makers, makers.equals(MAKERS));
    }

    @Override
    public Void scan(Tree tree, Void none) {
        if (tree != null) holds(at(tree, "there is no " + tree.getKind()), !REFUSED.contains(tree.getKind()));
        return super.scan(tree, none);
    }

    @Override
    public Void visitClass(ClassTree tree, Void none) {
        classes++;
        Element element = element(getCurrentPath());
        boolean nested = element.getEnclosingElement().getKind() == ElementKind.CLASS;
        boolean outer = element.getEnclosingElement().getKind() == ElementKind.PACKAGE;
        holds(at(tree, "rule 2: a class inside is static"), outer || nested && has(element, Modifier.STATIC));
        holds(at(tree, "rule 12: no other class overrides"), has(element, Modifier.FINAL));
        int fields = 0;
        for (Tree member : tree.getMembers()) {
            holds(at(member, "rule 5: no initialiser block"), member.getKind() != Tree.Kind.BLOCK);
            if (member instanceof VariableTree variable && !isStatic(variable)) fields++;
        }
        holds(at(tree, "rule 11: " + fields + " fields"), fields <= MOST_FIELDS);
        return super.visitClass(tree, none);
    }

    @Override
    public Void visitMethod(MethodTree tree, Void none) {
        Element element = element(getCurrentPath());
        int parameters = tree.getParameters().size();
        holds(at(tree, "rule 11: " + parameters + " parameters"), parameters <= MOST_PARAMETERS);
        if (has(element, Modifier.PUBLIC)) faceMethods.add(nameOf(element));
        if (tree.getReturnType() != null) type(tree.getReturnType(), getCurrentPath());
        return super.visitMethod(tree, none);
    }

    @Override
    public Void visitVariable(VariableTree tree, Void none) {
        type(tree.getType(), getCurrentPath());
        if (isStatic(tree)) {
            VariableElement constant = (VariableElement) element(getCurrentPath());
            holds(at(tree, "rule 5: a static field is a constant"), constant.getConstantValue() != null);
        }
        return super.visitVariable(tree, none);
    }

    @Override
    public Void visitMethodInvocation(MethodInvocationTree tree, Void none) {
        call(tree, element(getCurrentPath()));
        return super.visitMethodInvocation(tree, none);
    }

    @Override
    public Void visitNewClass(NewClassTree tree, Void none) {
        holds(at(tree, "rule 2: no class without a name"), tree.getClassBody() == null);
        call(tree, element(getCurrentPath()));
        made();
        return super.visitNewClass(tree, none);
    }

    @Override
    public Void visitNewArray(NewArrayTree tree, Void none) {
        made();
        return super.visitNewArray(tree, none);
    }

    @Override
    public Void visitTypeCast(TypeCastTree tree, Void none) {
        holds(at(tree, "rule 6: a cast to a number"), tree.getType().getKind() == Tree.Kind.PRIMITIVE_TYPE);
        return super.visitTypeCast(tree, none);
    }

    /** What javac works out by itself is no division when the program runs. */
    @Override
    public Void visitBinary(BinaryTree tree, Void none) {
        boolean divides = tree.getKind() == Tree.Kind.DIVIDE || tree.getKind() == Tree.Kind.REMAINDER;
        if (divides && !inConstant()) {
            Object divisor = constant(new TreePath(getCurrentPath(), tree.getRightOperand()));
            holds(at(tree, "rule 7: a divisor that is a constant, not 0"), divisor instanceof Integer i && i != 0);
        }
        return super.visitBinary(tree, none);
    }

    @Override
    public Void visitForLoop(ForLoopTree tree, Void none) {
        loop(tree, tree.getCondition(), new ArrayList<>(tree.getUpdate()), tree.getStatement());
        return super.visitForLoop(tree, none);
    }

    @Override
    public Void visitWhileLoop(WhileLoopTree tree, Void none) {
        List<StatementTree> lines = new ArrayList<>();
        if (tree.getStatement() instanceof BlockTree block) lines.addAll(block.getStatements());
        loop(tree, tree.getCondition(), lines, null);
        return super.visitWhileLoop(tree, none);
    }

    /** Rule 9: a counter is compared with a bound, goes one step on in each round, and nothing else changes it. */
    private void loop(Tree tree, ExpressionTree condition, List<StatementTree> steps, StatementTree body) {
        Set<String> counters = new TreeSet<>();
        for (StatementTree step : steps) {
            if (step instanceof ExpressionStatementTree line && line.getExpression() instanceof UnaryTree unary) {
                counters.add(unary.getKind() + " " + unary.getExpression());
            }
        }
        boolean ends = false;
        for (ExpressionTree part : conjuncts(condition)) {
            if (!(part instanceof BinaryTree compared)) continue;
            String counter = compared.getLeftOperand().toString();
            boolean rises = compared.getKind() == Tree.Kind.LESS_THAN && counters.contains("POSTFIX_INCREMENT " + counter);
            boolean falls = compared.getKind() == Tree.Kind.GREATER_THAN_EQUAL
                && counters.contains("POSTFIX_DECREMENT " + counter);
            ends |= (rises || falls) && !changes(body, counter);
        }
        holds(at(tree, "rule 9: a loop that ends"), ends);
    }

    private static List<ExpressionTree> conjuncts(ExpressionTree condition) {
        List<ExpressionTree> parts = new ArrayList<>();
        if (condition instanceof ParenthesizedTree inner) {
            parts.addAll(conjuncts(inner.getExpression()));
        } else if (condition instanceof BinaryTree both && both.getKind() == Tree.Kind.CONDITIONAL_AND) {
            parts.addAll(conjuncts(both.getLeftOperand()));
            parts.addAll(conjuncts(both.getRightOperand()));
        } else if (condition != null) {
            parts.add(condition);
        }
        return parts;
    }

    private static boolean changes(StatementTree body, String counter) {
        boolean[] found = {false};
        new TreeScanner<Void, Void>() {
            @Override
            public Void visitAssignment(AssignmentTree tree, Void none) {
                found[0] |= tree.getVariable().toString().equals(counter);
                return super.visitAssignment(tree, none);
            }

            @Override
            public Void visitCompoundAssignment(CompoundAssignmentTree tree, Void none) {
                found[0] |= tree.getVariable().toString().equals(counter);
                return super.visitCompoundAssignment(tree, none);
            }

            @Override
            public Void visitUnary(UnaryTree tree, Void none) {
                boolean steps = tree.getKind().toString().matches(".*(INCREMENT|DECREMENT)");
                found[0] |= steps && tree.getExpression().toString().equals(counter);
                return super.visitUnary(tree, none);
            }
        }.scan(body, null);
        return found[0];
    }

    /** Rules 3 and 4: numbers, rows of them, and what the class has itself. */
    private void type(Tree tree, TreePath path) {
        String name = source.trees().getTypeMirror(new TreePath(path, tree)).toString();
        boolean own = name.matches("GaleNames(\\.\\w+)?(\\[\\])?");
        holds(at(tree, "rule 3: " + name), own || TYPES.contains(name));
    }

    private void call(Tree tree, Element method) {
        String name = nameOf(method);
        boolean own = name.startsWith("GaleNames.");
        holds(at(tree, "rule 4: " + name), own || LIBRARY.contains(name));
        if (own) calls.add(caller(), name);
    }

    /** What a field's own line calls is called when an object is made. */
    private String caller() {
        Element around = around();
        return around.getKind() == ElementKind.FIELD ? around.getEnclosingElement() + "()" : nameOf(around);
    }

    private void made() {
        Element around = around();
        if (around.getKind() == ElementKind.METHOD) makers.add(nameOf(around));
    }

    /** The method, constructor or field that the present tree is a part of. */
    private Element around() {
        for (TreePath path = getCurrentPath(); path != null; path = path.getParentPath()) {
            Element element = path.getLeaf() instanceof MethodTree || path.getLeaf() instanceof VariableTree
                ? element(path) : null;
            if (element != null && element.getEnclosingElement().getKind() == ElementKind.CLASS) return element;
        }
        return element(getCurrentPath());
    }

    private boolean inConstant() {
        return around() instanceof VariableElement field && field.getConstantValue() != null;
    }

    private Object constant(TreePath path) {
        if (path.getLeaf() instanceof LiteralTree literal) return literal.getValue();
        boolean name = path.getLeaf() instanceof IdentifierTree;
        return name && element(path) instanceof VariableElement variable ? variable.getConstantValue() : null;
    }

    private static String nameOf(Element method) {
        boolean made = method.getKind() == ElementKind.CONSTRUCTOR;
        return method.getEnclosingElement() + (made ? "()" : "." + method);
    }

    private Element element(TreePath path) {
        return source.trees().getElement(path);
    }

    private static boolean isStatic(VariableTree variable) {
        return variable.getModifiers().getFlags().contains(Modifier.STATIC);
    }

    private static boolean has(Element element, Modifier modifier) {
        return element.getModifiers().contains(modifier);
    }

    private String at(Tree tree, String what) {
        return "line " + source.lineOf(tree) + ", " + what;
    }

    private static void holds(String what, boolean held) {
        due.is(what, held ? 1 : 0, 1);
    }
}
