import com.sun.source.tree.ArrayAccessTree;
import com.sun.source.tree.BinaryTree;
import com.sun.source.tree.ClassTree;
import com.sun.source.tree.CompilationUnitTree;
import com.sun.source.tree.ExpressionStatementTree;
import com.sun.source.tree.ExpressionTree;
import com.sun.source.tree.ForLoopTree;
import com.sun.source.tree.IdentifierTree;
import com.sun.source.tree.LiteralTree;
import com.sun.source.tree.MemberSelectTree;
import com.sun.source.tree.MethodInvocationTree;
import com.sun.source.tree.MethodTree;
import com.sun.source.tree.NewArrayTree;
import com.sun.source.tree.NewClassTree;
import com.sun.source.tree.ThrowTree;
import com.sun.source.tree.Tree;
import com.sun.source.tree.Tree.Kind;
import com.sun.source.tree.TypeCastTree;
import com.sun.source.tree.UnaryTree;
import com.sun.source.tree.VariableTree;
import com.sun.source.util.JavacTask;
import com.sun.source.util.TreePath;
import com.sun.source.util.TreePathScanner;
import com.sun.source.util.Trees;
import java.io.IOException;
import java.nio.file.Path;
import java.util.ArrayList;
import java.util.EnumSet;
import java.util.List;
import java.util.Map;
import java.util.Set;
import java.util.TreeMap;
import java.util.TreeSet;
import javax.lang.model.element.Element;
import javax.lang.model.element.ElementKind;
import javax.lang.model.element.ExecutableElement;
import javax.lang.model.element.Modifier;
import javax.lang.model.element.TypeElement;
import javax.lang.model.element.VariableElement;
import javax.lang.model.type.TypeMirror;
import javax.tools.JavaCompiler;
import javax.tools.StandardJavaFileManager;
import javax.tools.ToolProvider;

/** The rules of ../shared/LANGUAGE.md that the compiler's tree shows: kinds, types, calls, loops, depth, exceptions. */
public final class LanguageTreeTest extends TreePathScanner<Void, Void> {
    private static final Path SOURCE = Path.of("src/main/java/Vivahouse.java");
    private static final Check CHECK = new Check("LanguageTreeTest");
    private static final int MOST_DEPTH = 8;

    /** Left out by the rules 2, 4, 6, 9 and 10, or not needed. */
    private static final Set<Kind> RULED_OUT = EnumSet.of(Kind.LAMBDA_EXPRESSION, Kind.MEMBER_REFERENCE, Kind.TRY,
            Kind.SYNCHRONIZED, Kind.ASSERT, Kind.INSTANCE_OF, Kind.WHILE_LOOP, Kind.DO_WHILE_LOOP,
            Kind.ENHANCED_FOR_LOOP, Kind.ANNOTATION, Kind.STRING_LITERAL, Kind.REMAINDER, Kind.REMAINDER_ASSIGNMENT,
            Kind.DIVIDE_ASSIGNMENT);
    private static final Set<String> LIBRARY = Set.of("java.util.ArrayList.add(E)", "java.util.ArrayList.get(int)",
            "java.util.ArrayList.remove(int)", "java.util.ArrayList.size()", "java.lang.Integer.bitCount(int)",
            "java.lang.Math.abs(int)", "java.lang.Math.max(int,int)");
    private static final Set<String> PLAIN_TYPES =
            Set.of("int", "long", "char", "boolean", "double", "float", "void", "char[]");
    private static final Set<Kind> ON_FRACTIONS = EnumSet.of(Kind.PLUS, Kind.MINUS, Kind.MULTIPLY, Kind.DIVIDE,
            Kind.LESS_THAN, Kind.GREATER_THAN, Kind.LESS_THAN_EQUAL, Kind.GREATER_THAN_EQUAL, Kind.EQUAL_TO,
            Kind.NOT_EQUAL_TO);
    /** The classes of what may be null. */
    private static final Set<String> MAYBE_NOTHING = Set.of("Vivahouse.Deposit", "Vivahouse.Viva");
    /** Their callers have looked, and give what is there. */
    private static final Set<String> GIVEN_WHAT_IS_THERE = Set.of("decide", "forgetViva");

    private final Trees trees;
    /** Whom a method calls, and what it throws itself, by the names of methods. */
    private final Map<String, Set<String>> calls = new TreeMap<>();
    private final Map<String, Set<String>> thrown = new TreeMap<>();
    private final List<ExecutableElement> methods = new ArrayList<>();
    private final Set<String> libraryUsed = new TreeSet<>();
    private int loops = 0;
    private int divisions = 0;
    private int indexes = 0;

    private LanguageTreeTest(Trees trees) {
        this.trees = trees;
    }

    public static void main(String[] args) throws IOException {
        JavaCompiler compiler = ToolProvider.getSystemJavaCompiler();
        try (StandardJavaFileManager files = compiler.getStandardFileManager(null, null, null)) {
            JavacTask task = (JavacTask) compiler.getTask(null, files, null, List.of("-proc:none"), null,
                    files.getJavaFileObjects(SOURCE));
            CompilationUnitTree unit = task.parse().iterator().next();
            task.analyze();
            LanguageTreeTest test = new LanguageTreeTest(Trees.instance(task));
            test.scan(unit, null);
            test.names();
            test.exceptionsOfTheFace();
            test.depth();
            test.isAllSeen();
        }
        CHECK.end();
    }

    private void isAllSeen() {
        CHECK.same("methods are looked at", methods.size() > 100, true);
        CHECK.same("loops are", loops > 10, true);
        CHECK.same("divisions are", divisions > 0, true);
        CHECK.same("indexes are", indexes > 20, true);
        CHECK.same("calls of the library", libraryUsed.toString(), new TreeSet<>(LIBRARY).toString());
    }

    // What is written

    @Override
    public Void scan(Tree tree, Void none) {
        if (tree != null) {
            CHECK.same(tree.getKind() + " at " + line(tree), RULED_OUT.contains(tree.getKind()), false);
        }
        return super.scan(tree, none);
    }

    @Override
    public Void visitClass(ClassTree tree, Void none) {
        TreePath parent = getCurrentPath().getParentPath();
        boolean isOutermost = parent.getLeaf() instanceof CompilationUnitTree;
        boolean isInside = parent.getLeaf() instanceof ClassTree && tree.getModifiers().getFlags()
                .containsAll(Set.of(Modifier.PRIVATE, Modifier.STATIC, Modifier.FINAL));
        CHECK.same(tree.getSimpleName() + " is the class, or inside it by itself", isOutermost || isInside, true);
        for (Tree member : tree.getMembers()) {
            CHECK.same("no block stands in " + tree.getSimpleName(), member.getKind() == Kind.BLOCK, false);
        }
        return super.visitClass(tree, none);
    }

    @Override
    public Void visitVariable(VariableTree tree, Void none) {
        VariableElement variable = (VariableElement) element();
        type(variable.asType(), "variable " + variable);
        if (variable.getModifiers().contains(Modifier.STATIC)) {
            boolean isFinal = variable.getModifiers().contains(Modifier.FINAL);
            CHECK.same(variable + " is a constant", isFinal && variable.getConstantValue() != null, true);
        }
        if (tree.getInitializer() != null && tree.getInitializer().getKind() == Kind.NULL_LITERAL) {
            boolean isKnown = MAYBE_NOTHING.contains(variable.asType().toString());
            CHECK.same(variable + " may be null", isKnown && variable.getKind() == ElementKind.FIELD, true);
        }
        return super.visitVariable(tree, none);
    }

    @Override
    public Void visitMethod(MethodTree tree, Void none) {
        ExecutableElement method = (ExecutableElement) element();
        methods.add(method);
        calls.put(nameOf(method), new TreeSet<>());
        thrown.put(nameOf(method), new TreeSet<>());
        type(method.getReturnType(), "answer of " + method);
        return super.visitMethod(tree, none);
    }

    private void type(TypeMirror type, String what) {
        String name = type.toString();
        String bare = name.replaceAll("java\\.util\\.ArrayList<(.*)>", "$1");
        boolean isOwn = bare.matches("Vivahouse\\.\\w+");
        CHECK.same(what + " of type " + name, isOwn || PLAIN_TYPES.contains(name), true);
    }

    // What is called, made and thrown

    @Override
    public Void visitMethodInvocation(MethodInvocationTree tree, Void none) {
        ExecutableElement callee = (ExecutableElement) element();
        boolean isSuper = callee.getKind() == ElementKind.CONSTRUCTOR;
        String name = nameOf(callee);
        if (name.startsWith("Vivahouse")) {
            calls.get(nameOf(around())).add(name);
            CHECK.same("a constructor calls no " + name, around().getKind() == ElementKind.CONSTRUCTOR, false);
        } else if (!isSuper) {
            libraryUsed.add(name);
            CHECK.same(name + " of the library", LIBRARY.contains(name), true);
        }
        if (name.equals("java.util.ArrayList.get(int)") || name.equals("java.util.ArrayList.remove(int)")) {
            index(tree.getArguments().get(0), ".size()");
        }
        return super.visitMethodInvocation(tree, none);
    }

    @Override
    public Void visitNewClass(NewClassTree tree, Void none) {
        ExecutableElement made = (ExecutableElement) element();
        TypeElement type = (TypeElement) made.getEnclosingElement();
        boolean isThrown = getCurrentPath().getParentPath().getLeaf() instanceof ThrowTree;
        boolean isKnown = isThrown || nameOf(made).matches("Vivahouse.*|java\\.util\\.ArrayList\\.<init>\\(\\)");
        CHECK.same(type + " is made", isKnown && tree.getClassBody() == null, true);
        CHECK.same(type + " is made in no loop, at " + line(tree), isThrown || !isInLoop(), true);
        if (nameOf(made).startsWith("Vivahouse") && methodAround() != null) {
            calls.get(nameOf(around())).add(nameOf(made));
        }
        return super.visitNewClass(tree, none);
    }

    @Override
    public Void visitThrow(ThrowTree tree, Void none) {
        boolean isMade = tree.getExpression() instanceof NewClassTree;
        CHECK.same("what is thrown is made there, at " + line(tree),
                isMade && ((NewClassTree) tree.getExpression()).getArguments().isEmpty(), true);
        CHECK.same("no constructor throws", around().getKind() == ElementKind.CONSTRUCTOR, false);
        thrown.get(nameOf(around())).add(typeOf(tree.getExpression()).toString());
        return super.visitThrow(tree, none);
    }

    // What the machine could throw by itself

    @Override
    public Void visitNewArray(NewArrayTree tree, Void none) {
        boolean isConstant = tree.getDimensions().size() == 1
                && tree.getDimensions().get(0) instanceof IdentifierTree
                && tree.getDimensions().get(0).toString().matches("[A-Z_]+");
        CHECK.same("the length of an array is a constant, at " + line(tree), isConstant, true);
        return super.visitNewArray(tree, none);
    }

    @Override
    public Void visitArrayAccess(ArrayAccessTree tree, Void none) {
        index(tree.getIndex(), ".length");
        return super.visitArrayAccess(tree, none);
    }

    /** The index is a name that the same method holds against 0 and against the size, or comes from the size. */
    private void index(ExpressionTree index, String size) {
        indexes++;
        String method = methodAround().toString();
        String name = index.toString();
        boolean isName = index instanceof IdentifierTree;
        boolean isAboveZero = method.matches("(?s).*\\b" + name + " (>= 0|< 0|= 0;).*");
        boolean isBelowSize = method.matches("(?s).*\\b" + name + " (<|>=|=) [\\w.]+\\Q" + size + "\\E.*");
        boolean isLookedAt = isName && isAboveZero && isBelowSize;
        CHECK.same("the index " + name + " is looked at, at " + line(index), isLookedAt, true);
    }

    @Override
    public Void visitTypeCast(TypeCastTree tree, Void none) {
        CHECK.same("casts are to numbers, at " + line(tree), typeOf(tree).getKind().isPrimitive(), true);
        return super.visitTypeCast(tree, none);
    }

    @Override
    public Void visitBinary(BinaryTree tree, Void none) {
        boolean isFraction = isFraction(tree.getLeftOperand()) || isFraction(tree.getRightOperand());
        if (isFraction) {
            CHECK.same("on fractions: " + tree, ON_FRACTIONS.contains(tree.getKind()), true);
        }
        if (tree.getKind() == Kind.DIVIDE) {
            divisions++;
            boolean isByNumber = tree.getRightOperand() instanceof LiteralTree
                    && !tree.getRightOperand().toString().equals("0");
            String name = tree.getRightOperand().toString().replaceAll("\\(\\w+\\)", "");
            boolean isLookedAt = methodAround().toString().contains("if (" + name + " == 0)");
            CHECK.same("the divisor of " + tree + " is not 0", isByNumber || isFraction && isLookedAt, true);
        }
        return super.visitBinary(tree, none);
    }

    /** What may be null is held against null in the method that uses it, unless it was made there or is of a list. */
    @Override
    public Void visitMemberSelect(MemberSelectTree tree, Void none) {
        String used = tree.getExpression().toString();
        TypeMirror type = typeOf(tree.getExpression());
        if (type != null && MAYBE_NOTHING.contains(type.toString()) && !used.equals("this")) {
            String method = methodAround().toString();
            boolean isGiven = GIVEN_WHAT_IS_THERE.contains(methodAround().getName().toString());
            boolean isLookedAt = method.contains(used + " == null") || method.contains(used + " != null");
            boolean isThere = method.contains(" " + used + " = new ") || method.contains(" " + used + " = vivas.get(")
                    || used.startsWith("vivas.get(");
            CHECK.same(used + " is held against null, at " + line(tree), isGiven || isLookedAt || isThere, true);
        }
        return super.visitMemberSelect(tree, none);
    }

    // Loops

    @Override
    public Void visitForLoop(ForLoopTree tree, Void none) {
        loops++;
        boolean isCounted = tree.getInitializer().size() == 1 && tree.getInitializer().get(0) instanceof VariableTree
                && tree.getUpdate().size() == 1 && tree.getCondition() instanceof BinaryTree;
        CHECK.same("the loop has a counter, at " + line(tree), isCounted, true);
        if (!isCounted) {
            return super.visitForLoop(tree, none);
        }
        String counter = ((VariableTree) tree.getInitializer().get(0)).getName().toString();
        BinaryTree condition = (BinaryTree) tree.getCondition();
        ExpressionTree update = ((ExpressionStatementTree) tree.getUpdate().get(0)).getExpression();
        boolean isUp = update.getKind() == Kind.POSTFIX_INCREMENT && condition.getKind() == Kind.LESS_THAN;
        boolean isDown = update.getKind() == Kind.POSTFIX_DECREMENT
                && condition.getKind() == Kind.GREATER_THAN_EQUAL && condition.getRightOperand().toString().equals("0");
        CHECK.same("it goes up or down, at " + line(tree), isUp || isDown, true);
        CHECK.same("its counter is looked at, at " + line(tree), condition.getLeftOperand().toString(), counter);
        CHECK.same("and counted, at " + line(tree), ((UnaryTree) update).getExpression().toString(), counter);
        CHECK.same("and left alone inside, at " + line(tree), isTold(tree.getStatement(), counter), false);
        String bound = condition.getRightOperand().toString();
        CHECK.same("the bound " + bound + " too", isTold(tree.getStatement(), bound.replaceAll("\\..*", "")), false);
        return super.visitForLoop(tree, none);
    }

    /** Whether a name is given another value in a statement, or has something added to it or taken from it. */
    private static boolean isTold(Tree statement, String name) {
        String text = statement.toString();
        String end = "\\b" + name + "(\\+\\+|--| [-+*/|&^]?= |\\.(add|remove|clear)\\()";
        boolean isRemovedOnce = text.matches("(?s).*" + name + "\\.remove\\(i\\);\\s+break;.*");
        return text.matches("(?s).*" + end + ".*") && !isRemovedOnce;
    }

    private boolean isInLoop() {
        for (TreePath path = getCurrentPath(); path != null; path = path.getParentPath()) {
            if (path.getLeaf() instanceof ForLoopTree) {
                return true;
            }
        }
        return false;
    }

    // All methods together

    private void names() {
        Set<String> face = new TreeSet<>();
        for (ExecutableElement method : methods) {
            if (method.getModifiers().contains(Modifier.PUBLIC) && method.getKind() == ElementKind.METHOD) {
                face.add(method.getSimpleName().toString());
            }
        }
        CHECK.same("methods of the face", face.size(), 47);
        for (ExecutableElement method : methods) {
            boolean isFace = method.getModifiers().contains(Modifier.PUBLIC);
            String name = method.getSimpleName().toString();
            CHECK.same(method + " bears no name of the face", !isFace && face.contains(name), false);
        }
    }

    /** What a call of the face throws, by itself or by whom it calls, is what its head tells, no more and no less. */
    private void exceptionsOfTheFace() {
        for (ExecutableElement method : methods) {
            if (method.getModifiers().contains(Modifier.PUBLIC)) {
                Set<String> told = new TreeSet<>();
                for (TypeMirror type : method.getThrownTypes()) {
                    told.add(type.toString());
                }
                Set<String> met = new TreeSet<>();
                collect(nameOf(method), met, new TreeSet<>());
                CHECK.same("exceptions of " + method, met.toString(), told.toString());
            }
        }
    }

    private void collect(String method, Set<String> met, Set<String> seen) {
        if (seen.add(method)) {
            met.addAll(thrown.getOrDefault(method, Set.of()));
            for (String callee : calls.getOrDefault(method, Set.of())) {
                collect(callee, met, seen);
            }
        }
    }

    private void depth() {
        for (String method : calls.keySet()) {
            int depth = depthOf(method, 1);
            CHECK.same(method + " goes " + depth + " deep", depth <= MOST_DEPTH, true);
        }
    }

    /** One more than allowed as soon as that is reached, so that recursion has an end here. */
    private int depthOf(String method, int level) {
        int deepest = level;
        for (String callee : level > MOST_DEPTH ? Set.<String>of() : calls.getOrDefault(method, Set.of())) {
            deepest = Math.max(deepest, depthOf(callee, level + 1));
        }
        return deepest;
    }

    // Where the scanner stands

    private Element element() {
        return trees.getElement(getCurrentPath());
    }

    private TypeMirror typeOf(Tree tree) {
        return trees.getTypeMirror(TreePath.getPath(getCurrentPath(), tree));
    }

    private boolean isFraction(Tree tree) {
        String type = String.valueOf(typeOf(tree));
        return type.equals("double") || type.equals("float");
    }

    private MethodTree methodAround() {
        for (TreePath path = getCurrentPath(); path != null; path = path.getParentPath()) {
            if (path.getLeaf() instanceof MethodTree) {
                return (MethodTree) path.getLeaf();
            }
        }
        return null;
    }

    private ExecutableElement around() {
        CompilationUnitTree unit = getCurrentPath().getCompilationUnit();
        return (ExecutableElement) trees.getElement(trees.getPath(unit, methodAround()));
    }

    private static String nameOf(ExecutableElement method) {
        Element owner = method.getEnclosingElement();
        String parameters = method.toString().replaceAll(".*(\\(.*\\))", "$1");
        return owner + "." + method.getSimpleName() + parameters;
    }

    private String line(Tree tree) {
        TreePath path = getCurrentPath();
        if (path == null) {
            return "the beginning";
        }
        CompilationUnitTree unit = path.getCompilationUnit();
        return "line " + unit.getLineMap().getLineNumber(trees.getSourcePositions().getStartPosition(unit, tree));
    }
}
