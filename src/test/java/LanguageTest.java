import com.sun.source.tree.AssignmentTree;
import com.sun.source.tree.BinaryTree;
import com.sun.source.tree.BlockTree;
import com.sun.source.tree.ClassTree;
import com.sun.source.tree.CompilationUnitTree;
import com.sun.source.tree.CompoundAssignmentTree;
import com.sun.source.tree.ExpressionStatementTree;
import com.sun.source.tree.ExpressionTree;
import com.sun.source.tree.ForLoopTree;
import com.sun.source.tree.LiteralTree;
import com.sun.source.tree.MethodInvocationTree;
import com.sun.source.tree.MethodTree;
import com.sun.source.tree.NewArrayTree;
import com.sun.source.tree.NewClassTree;
import com.sun.source.tree.StatementTree;
import com.sun.source.tree.Tree;
import com.sun.source.tree.TypeCastTree;
import com.sun.source.tree.UnaryTree;
import com.sun.source.tree.VariableTree;
import com.sun.source.tree.WhileLoopTree;
import com.sun.source.util.JavacTask;
import com.sun.source.util.SourcePositions;
import com.sun.source.util.TreePath;
import com.sun.source.util.TreePathScanner;
import com.sun.source.util.Trees;
import java.io.IOException;
import java.nio.file.Path;
import java.util.ArrayList;
import java.util.EnumSet;
import java.util.LinkedHashMap;
import java.util.LinkedHashSet;
import java.util.List;
import java.util.Map;
import java.util.Set;
import java.util.regex.Pattern;
import java.util.stream.Collectors;
import java.util.stream.IntStream;
import javax.lang.model.element.Element;
import javax.lang.model.element.ElementKind;
import javax.lang.model.element.Modifier;
import javax.lang.model.element.VariableElement;
import javax.tools.JavaCompiler;
import javax.tools.StandardJavaFileManager;
import javax.tools.ToolProvider;

/**
 * The rules of LANGUAGE.md that the tree of the source shows. It allows what the class uses today, which is less than the
 * rules allow: a new kind of tree, type or library call is looked up in LANGUAGE.md first, and then put in here.
 */
public final class LanguageTest extends TreePathScanner<Void, Void> {
    private static final Due DUE = new Due("LanguageTest");

    /** Rules 2, 3, 6, 10: no throw, try, lambda, text, double, switch on patterns: none of those stands here. */
    private static final Set<Tree.Kind> KINDS = EnumSet.of(Tree.Kind.COMPILATION_UNIT, Tree.Kind.CLASS, Tree.Kind.METHOD,
        Tree.Kind.VARIABLE, Tree.Kind.MODIFIERS, Tree.Kind.PRIMITIVE_TYPE, Tree.Kind.ARRAY_TYPE, Tree.Kind.BLOCK,
        Tree.Kind.IF, Tree.Kind.FOR_LOOP, Tree.Kind.WHILE_LOOP, Tree.Kind.SWITCH, Tree.Kind.CASE, Tree.Kind.RETURN,
        Tree.Kind.EXPRESSION_STATEMENT, Tree.Kind.ASSIGNMENT, Tree.Kind.PLUS_ASSIGNMENT, Tree.Kind.OR_ASSIGNMENT,
        Tree.Kind.POSTFIX_INCREMENT, Tree.Kind.POSTFIX_DECREMENT, Tree.Kind.UNARY_MINUS, Tree.Kind.LOGICAL_COMPLEMENT,
        Tree.Kind.PLUS, Tree.Kind.MINUS, Tree.Kind.MULTIPLY, Tree.Kind.DIVIDE, Tree.Kind.REMAINDER, Tree.Kind.AND,
        Tree.Kind.LEFT_SHIFT, Tree.Kind.RIGHT_SHIFT, Tree.Kind.LESS_THAN, Tree.Kind.LESS_THAN_EQUAL,
        Tree.Kind.GREATER_THAN, Tree.Kind.GREATER_THAN_EQUAL, Tree.Kind.EQUAL_TO, Tree.Kind.NOT_EQUAL_TO,
        Tree.Kind.CONDITIONAL_AND, Tree.Kind.CONDITIONAL_OR, Tree.Kind.CONDITIONAL_EXPRESSION, Tree.Kind.PARENTHESIZED,
        Tree.Kind.TYPE_CAST, Tree.Kind.METHOD_INVOCATION, Tree.Kind.NEW_CLASS, Tree.Kind.NEW_ARRAY,
        Tree.Kind.ARRAY_ACCESS, Tree.Kind.MEMBER_SELECT, Tree.Kind.IDENTIFIER, Tree.Kind.INT_LITERAL,
        Tree.Kind.LONG_LITERAL, Tree.Kind.BOOLEAN_LITERAL, Tree.Kind.CHAR_LITERAL);
    /** Rule 4. */
    private static final Set<String> LIBRARY = Set.of("Math.abs", "Math.max", "Math.min", "Integer.bitCount");

    private final Trees trees;
    private final SourcePositions places;
    private final CompilationUnitTree unit;
    private final Map<Element, Set<Element>> calls = new LinkedHashMap<>();
    private Element method = null;
    private MethodTree body = null;

    private LanguageTest(Trees trees, CompilationUnitTree unit) {
        this.trees = trees;
        this.unit = unit;
        places = trees.getSourcePositions();
    }

    public static void main(String[] args) throws IOException {
        JavaCompiler compiler = ToolProvider.getSystemJavaCompiler();
        if (compiler == null) {
            DUE.holds("this java has no compiler to ask", true);
            DUE.end();
            return;
        }
        try (StandardJavaFileManager files = compiler.getStandardFileManager(null, null, null)) {
            JavacTask task = (JavacTask) compiler.getTask(null, files, null, List.of("-proc:none"), null,
                    files.getJavaFileObjects(Path.of("src/main/java/BeansBox.java")));
            CompilationUnitTree unit = task.parse().iterator().next();
            task.analyze();
            LanguageTest test = new LanguageTest(Trees.instance(task), unit);
            DUE.is("one class in the file", unit.getTypeDecls().size(), 1);
            DUE.is("rule 4: no import", unit.getImports().size(), 0);
            test.scan(new TreePath(unit), null);
            test.callsEnd();
        }
        DUE.end();
    }

    private void rule(Tree at, String rule, boolean holds) {
        long line = unit.getLineMap().getLineNumber(Math.max(0, places.getStartPosition(unit, at)));
        DUE.holds("line " + line + ", rule " + rule + ": " + at.toString().lines().findFirst().orElse(""), holds);
    }

    private Element element() {
        return trees.getElement(getCurrentPath());
    }

    private Element element(Tree tree) {
        return trees.getElement(new TreePath(getCurrentPath(), tree));
    }

    private static boolean own(Element element) {
        Element outer = element;
        while (outer.getEnclosingElement() != null && outer.getEnclosingElement().getKind() != ElementKind.PACKAGE) {
            outer = outer.getEnclosingElement();
        }
        return outer.getSimpleName().contentEquals("BeansBox");
    }

    // ---- each piece of the source

    @Override
    public Void scan(Tree tree, Void none) {
        // what the compiler itself adds has no end in the source
        if (tree == null || tree != unit && tree.getKind() != Tree.Kind.MODIFIERS && places.getEndPosition(unit, tree) < 0) {
            return null;
        }
        rule(tree, "2, 3, 6 (" + tree.getKind() + ")", KINDS.contains(tree.getKind()));
        return super.scan(tree, none);
    }

    @Override
    public Void visitClass(ClassTree its, Void none) {
        Element outer = element().getEnclosingElement();
        rule(its, "2: a class inside is static and no class is in a method", outer.getKind() == ElementKind.PACKAGE
                || outer.getSimpleName().contentEquals("BeansBox") && element().getModifiers().contains(Modifier.STATIC));
        rule(its, "11: extends nothing, implements nothing", its.getExtendsClause() == null && its.getImplementsClause().isEmpty());
        return super.visitClass(its, none);
    }

    @Override
    public Void visitVariable(VariableTree its, Void none) {
        String type = trees.getTypeMirror(getCurrentPath()).toString();
        rule(its, "3: " + type, Pattern.matches("int|long|boolean|int\\[\\]|BeansBox\\.\\w+(\\[\\])?", type));
        if (element().getModifiers().contains(Modifier.STATIC)) {
            rule(its, "5: a constant", type.equals("int") && ((VariableElement) element()).getConstantValue() != null);
        }
        return super.visitVariable(its, none);
    }

    @Override
    public Void visitMethod(MethodTree its, Void none) {
        method = element();
        body = its;
        calls.putIfAbsent(method, new LinkedHashSet<>());
        long first = unit.getLineMap().getLineNumber(places.getStartPosition(unit, its));
        long last = unit.getLineMap().getLineNumber(places.getEndPosition(unit, its));
        rule(its, "11: sixty lines at most", last - first < 60);
        rule(its, "11: seven parameters at most", its.getParameters().size() <= 7);
        super.visitMethod(its, none);
        method = null;
        body = null;
        return null;
    }

    @Override
    public Void visitMethodInvocation(MethodInvocationTree its, Void none) {
        if (its.getMethodSelect().toString().equals("super")) {
            // what the compiler itself adds to a constructor
            return null;
        }
        Element called = element();
        String name = called.getEnclosingElement().getSimpleName() + "." + called.getSimpleName();
        rule(its, "4: " + name, own(called) || LIBRARY.contains(name));
        if (method != null) {
            calls.get(method).add(called);
        }
        return super.visitMethodInvocation(its, none);
    }

    @Override
    public Void visitTypeCast(TypeCastTree its, Void none) {
        rule(its, "6: a cast of numbers alone", its.getType().toString().equals("int") || its.getType().toString().equals("long"));
        return super.visitTypeCast(its, none);
    }

    // ---- what is made: rule 12, and the room that all calls share

    @Override
    public Void visitNewClass(NewClassTree its, Void none) {
        rule(its, "2: no class without a name", its.getClassBody() == null);
        rule(its, "12: made with the box alone", madeWithTheBox());
        return super.visitNewClass(its, none);
    }

    @Override
    public Void visitNewArray(NewArrayTree its, Void none) {
        rule(its, "3: of one dimension, its length told", its.getDimensions().size() == 1 && its.getInitializers() == null);
        rule(its, "12: made with the box alone", madeWithTheBox());
        return super.visitNewArray(its, none);
    }

    private boolean madeWithTheBox() {
        return method == null || method.getKind() == ElementKind.CONSTRUCTOR;
    }

    // ---- rule 7: a divisor

    @Override
    public Void visitBinary(BinaryTree its, Void none) {
        if (its.getKind() == Tree.Kind.DIVIDE || its.getKind() == Tree.Kind.REMAINDER) {
            ExpressionTree by = its.getRightOperand();
            boolean looked = body != null && body.getBody().toString().contains(by + " <= 0");
            rule(its, "7: a divisor", constant(by) || looked);
        }
        return super.visitBinary(its, none);
    }

    private boolean constant(ExpressionTree tree) {
        if (tree instanceof LiteralTree literal) {
            return ((Number) literal.getValue()).longValue() != 0;
        }
        return element(tree) instanceof VariableElement its && its.getConstantValue() != null;
    }

    // ---- rule 9: loops

    @Override
    public Void visitForLoop(ForLoopTree its, Void none) {
        boolean counts = its.getInitializer().size() == 1 && its.getInitializer().get(0) instanceof VariableTree
                && its.getUpdate().size() == 1 && its.getUpdate().get(0).getExpression().getKind() == Tree.Kind.POSTFIX_INCREMENT;
        rule(its, "9: a counter", counts);
        if (counts) {
            String counter = ((VariableTree) its.getInitializer().get(0)).getName().toString();
            rule(its, "9: against a bound", Pattern.compile("\\b" + counter + " <=? ").matcher(its.getCondition().toString()).find());
            rule(its, "9: the body leaves the counter", !changed(its.getStatement(), counter));
        }
        return super.visitForLoop(its, none);
    }

    @Override
    public Void visitWhileLoop(WhileLoopTree its, Void none) {
        boolean ends = its.getStatement() instanceof BlockTree block && block.getStatements().stream()
                .map(LanguageTest::counted)
                .anyMatch(counter -> !counter.isEmpty() && its.getCondition().toString().matches(".*\\b" + counter + " < .*"));
        rule(its, "9: it counts on against a bound", ends);
        return super.visitWhileLoop(its, none);
    }

    private static String counted(StatementTree statement) {
        return statement instanceof ExpressionStatementTree it && it.getExpression() instanceof UnaryTree unary
                && unary.getKind() == Tree.Kind.POSTFIX_INCREMENT ? unary.getExpression().toString() : "";
    }

    private boolean changed(StatementTree statement, String counter) {
        boolean[] found = {false};
        new TreePathScanner<Void, Void>() {
            private void look(ExpressionTree target) {
                found[0] |= target.toString().equals(counter);
            }

            @Override
            public Void visitAssignment(AssignmentTree its, Void none) {
                look(its.getVariable());
                return super.visitAssignment(its, none);
            }

            @Override
            public Void visitCompoundAssignment(CompoundAssignmentTree its, Void none) {
                look(its.getVariable());
                return super.visitCompoundAssignment(its, none);
            }

            @Override
            public Void visitUnary(UnaryTree its, Void none) {
                if (its.getKind().toString().startsWith("POSTFIX")) {
                    look(its.getExpression());
                }
                return super.visitUnary(its, none);
            }
        }.scan(new TreePath(getCurrentPath(), statement), null);
        return found[0];
    }

    // ---- rules 8 and 11: calls of calls

    private void callsEnd() {
        DUE.holds("methods were found", calls.size() > 36);
        for (Element from : calls.keySet()) {
            List<Element> deepest = deepest(from, List.of());
            String chain = deepest.stream().map(its -> its.getSimpleName().toString()).collect(Collectors.joining(" "));
            DUE.holds("rule 8: " + chain + " calls itself", IntStream.range(0, deepest.size()).allMatch(
                    i -> deepest.indexOf(deepest.get(i)) == i));
            DUE.holds("rule 11: " + chain + " goes eight deep at most", deepest.size() <= 8);
        }
    }

    /** The longest chain of calls behind those that are open; it ends at a method that is open. */
    private List<Element> deepest(Element from, List<Element> open) {
        List<Element> chain = new ArrayList<>(open);
        chain.add(from);
        if (open.contains(from)) {
            return chain;
        }
        List<Element> longest = chain;
        for (Element next : calls.getOrDefault(from, Set.of())) {
            List<Element> its = deepest(next, chain);
            boolean turns = its.indexOf(its.get(its.size() - 1)) < its.size() - 1;
            if (turns) {
                return its;
            }
            longest = its.size() > longest.size() ? its : longest;
        }
        return longest;
    }
}
