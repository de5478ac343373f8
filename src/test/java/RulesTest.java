import com.sun.source.tree.ArrayAccessTree;
import com.sun.source.tree.AssignmentTree;
import com.sun.source.tree.BinaryTree;
import com.sun.source.tree.BlockTree;
import com.sun.source.tree.ClassTree;
import com.sun.source.tree.CompilationUnitTree;
import com.sun.source.tree.CompoundAssignmentTree;
import com.sun.source.tree.DoWhileLoopTree;
import com.sun.source.tree.EnhancedForLoopTree;
import com.sun.source.tree.ExpressionTree;
import com.sun.source.tree.ForLoopTree;
import com.sun.source.tree.LambdaExpressionTree;
import com.sun.source.tree.LiteralTree;
import com.sun.source.tree.MemberReferenceTree;
import com.sun.source.tree.MethodInvocationTree;
import com.sun.source.tree.MethodTree;
import com.sun.source.tree.NewArrayTree;
import com.sun.source.tree.NewClassTree;
import com.sun.source.tree.SwitchTree;
import com.sun.source.tree.ThrowTree;
import com.sun.source.tree.Tree;
import com.sun.source.tree.TryTree;
import com.sun.source.tree.TypeCastTree;
import com.sun.source.tree.UnaryTree;
import com.sun.source.tree.VariableTree;
import com.sun.source.tree.WhileLoopTree;
import com.sun.source.util.JavacTask;
import com.sun.source.util.TreePath;
import com.sun.source.util.TreePathScanner;
import com.sun.source.util.Trees;
import java.io.File;
import java.util.ArrayList;
import java.util.HashSet;
import java.util.List;
import java.util.Map;
import java.util.Set;
import java.util.TreeMap;
import java.util.TreeSet;
import javax.lang.model.element.Element;
import javax.lang.model.element.ElementKind;
import javax.lang.model.element.ExecutableElement;
import javax.lang.model.element.Modifier;
import javax.lang.model.element.TypeElement;
import javax.lang.model.element.VariableElement;
import javax.lang.model.type.ArrayType;
import javax.lang.model.type.DeclaredType;
import javax.lang.model.type.TypeKind;
import javax.lang.model.type.TypeMirror;
import javax.tools.JavaCompiler;
import javax.tools.StandardJavaFileManager;
import javax.tools.ToolProvider;

/**
 * Holds the class's tree, as javac has it, against the rules of LANGUAGE.md by their numbers; where that is simpler,
 * against less than they leave (no try, no cast but of numbers, nothing new but in constructors and behind throw).
 */
public final class RulesTest extends TreePathScanner<Void, Void> {
    private static final Set<String> LIBRARY = Set.of("String.length", "String.charAt", "Arrays.fill", "Math.max", "Math.min");
    private static final Set<String> EXCEPTIONS = Set.of("IllegalStateException", "IllegalArgumentException",
            "IndexOutOfBoundsException", "ArithmeticException", "UnsupportedOperationException", "NoSuchElementException",
            "RuntimeException");
    private static final int DEEPEST = 8;
    private static final int LONGEST = 60;

    private final CompilationUnitTree unit;
    private final Trees trees;
    private final Map<String, Set<String>> calls = new TreeMap<>();
    private String method = "";
    private boolean constructor;
    private int classes;
    private int looked;
    private int wrong;

    private RulesTest(CompilationUnitTree unit, Trees trees) {
        this.unit = unit;
        this.trees = trees;
    }

    public static void main(String[] args) throws Exception {
        JavaCompiler compiler = ToolProvider.getSystemJavaCompiler();
        StandardJavaFileManager files = compiler.getStandardFileManager(null, null, null);
        JavacTask task = (JavacTask) compiler.getTask(null, files, null, List.of("--release", "17"), null,
                files.getJavaFileObjects(new File("src/main/java/BeanLoom.java")));
        CompilationUnitTree unit = task.parse().iterator().next();
        task.analyze();
        RulesTest rules = new RulesTest(unit, Trees.instance(task));
        rules.scan(unit, null);
        rules.depths();
        rules.look(unit, 1, unit.getPackage() == null && unit.getTypeDecls().size() == 1, "one class without a package");
        rules.look(unit, 11, rules.classes <= 12, rules.classes + " classes");
        System.out.println(rules.looked + " looked at, " + rules.wrong + " wrong");
        if (rules.wrong != 0) {
            System.exit(1);
        }
    }

    private void look(Tree at, int rule, boolean good, String what) {
        looked++;
        if (!good) {
            wrong++;
            System.out.println("line " + line(trees.getSourcePositions().getStartPosition(unit, at)) + ", rule " + rule
                    + ": " + what + " in " + method);
        }
    }

    private long line(long position) {
        return position < 0 ? 0 : unit.getLineMap().getLineNumber(position);
    }

    private long lines(Tree tree) {
        return line(trees.getSourcePositions().getEndPosition(unit, tree))
                - line(trees.getSourcePositions().getStartPosition(unit, tree)) + 1;
    }

    private Element element(Tree tree) {
        return trees.getElement(new TreePath(getCurrentPath(), tree));
    }

    private TypeMirror type(Tree tree) {
        return trees.getTypeMirror(new TreePath(getCurrentPath(), tree));
    }

    private static boolean own(TypeMirror type) {
        return type.getKind() == TypeKind.DECLARED
                && (type.toString().equals("BeanLoom") || type.toString().startsWith("BeanLoom."));
    }

    private static boolean plain(TypeMirror type) {
        return type.getKind().isPrimitive() && type.getKind() != TypeKind.DOUBLE && type.getKind() != TypeKind.FLOAT;
    }

    /** Rule 3, without the lists and the doubles, of which the class has none. */
    private static boolean allowed(TypeMirror type) {
        if (type.getKind() == TypeKind.ARRAY) {
            TypeMirror part = ((ArrayType) type).getComponentType();
            return plain(part) || own(part);
        }
        return plain(type) || own(type) || type.toString().equals("java.lang.String");
    }

    private static boolean text(TypeMirror type) {
        return type != null && type.toString().equals("java.lang.String");
    }

    @Override
    public Void visitClass(ClassTree tree, Void none) {
        classes++;
        look(tree, 2, method.isEmpty(), "a class inside a method");
        look(tree, 2, tree.getKind() == Tree.Kind.CLASS, "no plain class");
        look(tree, 2, tree.getExtendsClause() == null && tree.getImplementsClause().isEmpty(), "a class by another one");
        int fields = 0;
        for (Tree member : tree.getMembers()) {
            look(member, 5, !(member instanceof BlockTree), "a block of its own");
            if (member instanceof VariableTree && !((VariableTree) member).getModifiers().getFlags().contains(Modifier.STATIC)) {
                fields++;
            }
        }
        look(tree, 11, fields <= 20, fields + " fields");
        return super.visitClass(tree, none);
    }

    @Override
    public Void visitMethod(MethodTree tree, Void none) {
        ExecutableElement found = (ExecutableElement) trees.getElement(getCurrentPath());
        String before = method;
        method = name(found);
        constructor = found.getKind() == ElementKind.CONSTRUCTOR;
        calls.putIfAbsent(method, new TreeSet<>());
        look(tree, 11, tree.getParameters().size() <= 7, "too many parameters");
        look(tree, 11, lines(tree) <= LONGEST, lines(tree) + " lines");
        look(tree, 3, constructor || found.getReturnType().getKind() == TypeKind.VOID || allowed(found.getReturnType()),
                "a type " + found.getReturnType());
        look(tree, 6, !Set.of("equals", "hashCode", "toString", "finalize").contains(found.getSimpleName().toString()),
                "a method of every object");
        super.visitMethod(tree, none);
        method = before;
        constructor = false;
        return null;
    }

    @Override
    public Void visitVariable(VariableTree tree, Void none) {
        VariableElement found = (VariableElement) trees.getElement(getCurrentPath());
        look(tree, 3, allowed(found.asType()), "a type " + found.asType());
        if (found.getModifiers().contains(Modifier.STATIC)) {
            look(tree, 5, found.getModifiers().contains(Modifier.FINAL), "static, but not final");
            boolean array = found.asType().getKind() == TypeKind.ARRAY;
            look(tree, 5, array ? tree.getInitializer() instanceof NewArrayTree
                    && ((NewArrayTree) tree.getInitializer()).getInitializers() != null
                    : found.getConstantValue() != null, "not written out");
        }
        return super.visitVariable(tree, none);
    }

    @Override
    public Void visitMethodInvocation(MethodInvocationTree tree, Void none) {
        ExecutableElement called = (ExecutableElement) element(tree.getMethodSelect());
        if (called == null) {
            called = (ExecutableElement) trees.getElement(getCurrentPath());
        }
        boolean inside = own(called.getEnclosingElement().asType());
        boolean ofObject = called.getKind() == ElementKind.CONSTRUCTOR;
        look(tree, 4, inside || ofObject || LIBRARY.contains(name(called)), "a call of " + name(called));
        look(tree, 12, !constructor || ofObject || called.getModifiers().contains(Modifier.STATIC)
                || called.getModifiers().contains(Modifier.PRIVATE), "a constructor calls " + name(called));
        if (!ofObject) {
            calls.get(method).add(name(called));
        }
        return super.visitMethodInvocation(tree, none);
    }

    private static String name(ExecutableElement called) {
        return ((TypeElement) called.getEnclosingElement()).getSimpleName() + "." + called.getSimpleName();
    }

    @Override
    public Void visitNewClass(NewClassTree tree, Void none) {
        boolean thrown = getCurrentPath().getParentPath().getLeaf() instanceof ThrowTree;
        TypeMirror made = type(tree);
        look(tree, 2, tree.getClassBody() == null, "an anonymous class");
        look(tree, 12, thrown || constructor || method.isEmpty(), "a new " + made);
        look(tree, 4, thrown || own(made), "a new " + made);
        for (ExpressionTree argument : tree.getArguments()) {
            look(tree, 12, !argument.toString().equals("this"), "hands itself out");
        }
        return super.visitNewClass(tree, none);
    }

    @Override
    public Void visitNewArray(NewArrayTree tree, Void none) {
        look(tree, 12, constructor || method.isEmpty(), "a new array");
        for (ExpressionTree size : tree.getDimensions()) {
            Object length = constant(size);
            look(tree, 7, length instanceof Number && ((Number) length).longValue() >= 0, "a length that is not written out");
        }
        return super.visitNewArray(tree, none);
    }

    /** What javac has for a constant expression: a literal, a constant field, or products and sums of these. */
    private Object constant(ExpressionTree tree) {
        if (tree instanceof LiteralTree) {
            return ((LiteralTree) tree).getValue();
        }
        if (tree instanceof BinaryTree) {
            Object left = constant(((BinaryTree) tree).getLeftOperand());
            Object right = constant(((BinaryTree) tree).getRightOperand());
            if (left instanceof Number && right instanceof Number && tree.getKind() == Tree.Kind.MULTIPLY) {
                return ((Number) left).longValue() * ((Number) right).longValue();
            }
            return null;
        }
        Element found = element(tree);
        return found instanceof VariableElement ? ((VariableElement) found).getConstantValue() : null;
    }

    @Override
    public Void visitThrow(ThrowTree tree, Void none) {
        look(tree, 6, !constructor, "a throw in a constructor");
        ExpressionTree thrown = tree.getExpression();
        boolean good = thrown instanceof NewClassTree;
        if (good) {
            List<? extends ExpressionTree> words = ((NewClassTree) thrown).getArguments();
            String name = ((NewClassTree) thrown).getIdentifier().toString();
            good = EXCEPTIONS.contains(name) && words.size() <= 1
                    && (words.isEmpty() || words.get(0) instanceof LiteralTree);
            ExecutableElement caller = (ExecutableElement) trees.getElement(trees.getPath(unit, enclosing()));
            boolean told = false;
            for (TypeMirror type : caller.getThrownTypes()) {
                told |= ((DeclaredType) type).asElement().getSimpleName().contentEquals(name);
            }
            look(tree, 6, told && caller.getModifiers().contains(Modifier.PUBLIC), name + " is not told by the face");
        }
        look(tree, 6, good, "a throw of another form");
        return super.visitThrow(tree, none);
    }

    private Tree enclosing() {
        TreePath path = getCurrentPath();
        while (!(path.getLeaf() instanceof MethodTree)) {
            path = path.getParentPath();
        }
        return path.getLeaf();
    }

    @Override
    public Void visitBinary(BinaryTree tree, Void none) {
        if (tree.getKind() == Tree.Kind.DIVIDE || tree.getKind() == Tree.Kind.REMAINDER) {
            Object divisor = constant(tree.getRightOperand());
            look(tree, 7, divisor instanceof Number && ((Number) divisor).longValue() != 0, "a divisor that is not written out");
        }
        look(tree, 10, !text(type(tree.getLeftOperand())) && !text(type(tree.getRightOperand())), "texts are not joined by +");
        return super.visitBinary(tree, none);
    }

    @Override
    public Void visitCompoundAssignment(CompoundAssignmentTree tree, Void none) {
        boolean divides = tree.getKind() == Tree.Kind.DIVIDE_ASSIGNMENT || tree.getKind() == Tree.Kind.REMAINDER_ASSIGNMENT;
        Object divisor = divides ? constant(tree.getExpression()) : 1L;
        look(tree, 7, divisor instanceof Number && ((Number) divisor).longValue() != 0, "a divisor that is not written out");
        look(tree, 10, !text(type(tree.getVariable())), "texts are not joined by +=");
        unchanged(tree.getVariable());
        return super.visitCompoundAssignment(tree, none);
    }

    @Override
    public Void visitAssignment(AssignmentTree tree, Void none) {
        unchanged(tree.getVariable());
        return super.visitAssignment(tree, none);
    }

    @Override
    public Void visitUnary(UnaryTree tree, Void none) {
        if (tree.getKind() != Tree.Kind.UNARY_MINUS && tree.getKind() != Tree.Kind.LOGICAL_COMPLEMENT) {
            unchanged(tree.getExpression());
        }
        return super.visitUnary(tree, none);
    }

    /** Rule 5: the arrays that are constants are read alone. */
    private void unchanged(ExpressionTree variable) {
        if (variable instanceof ArrayAccessTree) {
            ExpressionTree owner = ((ArrayAccessTree) variable).getExpression();
            Element found = trees.getElement(new TreePath(new TreePath(getCurrentPath(), variable), owner));
            look(variable, 5, found == null || !found.getModifiers().contains(Modifier.STATIC), "a constant is changed");
        }
    }

    @Override
    public Void visitTypeCast(TypeCastTree tree, Void none) {
        look(tree, 6, plain(type(tree.getType())) && plain(type(tree.getExpression())), "a cast of an object");
        return super.visitTypeCast(tree, none);
    }

    @Override
    public Void visitSwitch(SwitchTree tree, Void none) {
        look(tree, 10, plain(type(tree.getExpression())), "a switch on no number");
        return super.visitSwitch(tree, none);
    }

    @Override
    public Void visitForLoop(ForLoopTree tree, Void none) {
        look(tree, 9, tree.getCondition() != null && !(tree.getCondition() instanceof LiteralTree), "a loop without an end");
        return super.visitForLoop(tree, none);
    }

    @Override
    public Void visitWhileLoop(WhileLoopTree tree, Void none) {
        look(tree, 9, tree.getCondition().toString().contains(" > 0"), "a loop without a counter");
        return super.visitWhileLoop(tree, none);
    }

    @Override
    public Void visitDoWhileLoop(DoWhileLoopTree tree, Void none) {
        look(tree, 9, false, "a loop of another kind");
        return super.visitDoWhileLoop(tree, none);
    }

    @Override
    public Void visitEnhancedForLoop(EnhancedForLoopTree tree, Void none) {
        look(tree, 10, type(tree.getExpression()).getKind() == TypeKind.ARRAY, "a for over no array");
        return super.visitEnhancedForLoop(tree, none);
    }

    @Override
    public Void visitTry(TryTree tree, Void none) {
        look(tree, 6, false, "a try");
        return super.visitTry(tree, none);
    }

    @Override
    public Void visitLambdaExpression(LambdaExpressionTree tree, Void none) {
        look(tree, 2, false, "a lambda");
        return super.visitLambdaExpression(tree, none);
    }

    @Override
    public Void visitMemberReference(MemberReferenceTree tree, Void none) {
        look(tree, 2, false, "a method reference");
        return super.visitMemberReference(tree, none);
    }

    @Override
    public Void visitLiteral(LiteralTree tree, Void none) {
        if (tree.getValue() instanceof String) {
            for (char sign : ((String) tree.getValue()).toCharArray()) {
                look(tree, 4, sign >= 1 && sign <= 127, "a sign " + (int) sign);
            }
        }
        return super.visitLiteral(tree, none);
    }

    /** Rules 8 and 11: no method comes to call itself, and calls go at most eight deep, the library's counted too. */
    private void depths() {
        Map<String, Integer> known = new TreeMap<>();
        for (String start : calls.keySet()) {
            int deep = depth(start, known, new HashSet<>(), new ArrayList<>());
            looked++;
            if (deep > DEEPEST) {
                wrong++;
                System.out.println("rule 11: " + start + " goes " + deep + " deep");
            }
        }
    }

    private int depth(String name, Map<String, Integer> known, Set<String> open, List<String> way) {
        if (known.containsKey(name) || !calls.containsKey(name)) {
            return known.getOrDefault(name, 1);
        }
        way.add(name);
        if (!open.add(name)) {
            wrong++;
            System.out.println("rule 8: " + way + " is a recursion");
            return 1;
        }
        int deepest = 0;
        for (String called : calls.get(name)) {
            deepest = Math.max(deepest, depth(called, known, open, way));
        }
        open.remove(name);
        way.remove(way.size() - 1);
        known.put(name, deepest + 1);
        return deepest + 1;
    }
}
