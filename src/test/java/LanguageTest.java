import com.sun.source.tree.AnnotationTree;
import com.sun.source.tree.ArrayAccessTree;
import com.sun.source.tree.AssertTree;
import com.sun.source.tree.BinaryTree;
import com.sun.source.tree.ClassTree;
import com.sun.source.tree.CompilationUnitTree;
import com.sun.source.tree.ConditionalExpressionTree;
import com.sun.source.tree.DoWhileLoopTree;
import com.sun.source.tree.EnhancedForLoopTree;
import com.sun.source.tree.ExpressionTree;
import com.sun.source.tree.ForLoopTree;
import com.sun.source.tree.IfTree;
import com.sun.source.tree.ImportTree;
import com.sun.source.tree.InstanceOfTree;
import com.sun.source.tree.LambdaExpressionTree;
import com.sun.source.tree.LiteralTree;
import com.sun.source.tree.MemberReferenceTree;
import com.sun.source.tree.MethodInvocationTree;
import com.sun.source.tree.MethodTree;
import com.sun.source.tree.NewArrayTree;
import com.sun.source.tree.NewClassTree;
import com.sun.source.tree.SynchronizedTree;
import com.sun.source.tree.ThrowTree;
import com.sun.source.tree.Tree;
import com.sun.source.tree.TryTree;
import com.sun.source.tree.TypeCastTree;
import com.sun.source.tree.VariableTree;
import com.sun.source.tree.WhileLoopTree;
import com.sun.source.util.JavacTask;
import com.sun.source.util.TreePath;
import com.sun.source.util.TreePathScanner;
import com.sun.source.util.Trees;
import java.io.IOException;
import java.nio.file.Path;
import java.util.ArrayList;
import java.util.List;
import java.util.Map;
import java.util.Set;
import java.util.TreeMap;
import java.util.TreeSet;
import javax.lang.model.element.Element;
import javax.lang.model.element.Modifier;
import javax.lang.model.element.TypeElement;
import javax.tools.JavaCompiler;
import javax.tools.StandardJavaFileManager;
import javax.tools.ToolProvider;

/**
 * The rules of ../shared/LANGUAGE.md, as far as the program's tree shows them; rule 1 is FaceTest's.
 * The program uses less than the rules allow, and this holds it to what it uses. Run in the project's
 * folder.
 */
public final class LanguageTest extends TreePathScanner<Void, Void> {
    private static final Path PROGRAM = Path.of("src/main/java/TightFive.java");
    private static final Set<String> IMPORTS = Set.of("java.util.ArrayList", "java.util.Arrays",
            "java.util.NoSuchElementException");
    private static final Set<String> CALLS = Set.of("ArrayList.add", "ArrayList.get", "ArrayList.remove",
            "ArrayList.size", "ArrayList.clear", "Arrays.fill", "Integer.bitCount", "Math.min", "Math.max",
            "System.arraycopy", "Object.<init>", "ArrayList.<init>");
    private static final Set<String> EXCEPTIONS = Set.of("IllegalStateException",
            "IllegalArgumentException", "IndexOutOfBoundsException", "ArithmeticException",
            "UnsupportedOperationException", "NoSuchElementException");
    private static final Set<String> PLAIN_TYPES = Set.of("int", "long", "char", "boolean", "int[]");

    private final CompilationUnitTree unit;
    private final Trees trees;
    private final Set<String> classes = new TreeSet<>();
    private final Map<String, Set<String>> callsOf = new TreeMap<>();
    private final List<String> arrayAccesses = new ArrayList<>();
    private final List<String> quotients = new ArrayList<>();

    private LanguageTest(CompilationUnitTree unit, Trees trees) {
        this.unit = unit;
        this.trees = trees;
    }

    public static void main(String[] args) throws IOException {
        JavaCompiler compiler = ToolProvider.getSystemJavaCompiler();
        StandardJavaFileManager files = compiler.getStandardFileManager(null, null, null);
        JavacTask task = (JavacTask) compiler.getTask(null, files, null, List.of("-proc:none"), null,
                files.getJavaFileObjects(PROGRAM));
        CompilationUnitTree unit = task.parse().iterator().next();
        task.analyze();
        LanguageTest test = new LanguageTest(unit, Trees.instance(task));
        test.scan(unit, null);
        test.whole();
        Check.finish("LanguageTest");
    }

    private void whole() throws IOException {
        String source = unit.getSourceFile().getCharContent(true).toString();
        Check.is("only the signs of rule 4", source.chars().allMatch(c -> c == '\n' || c >= 32 && c < 127), true);
        Check.is("no package line", unit.getPackageName() == null, true);
        Check.is("rule 11, some twelve classes: " + classes, classes.size() <= 12, true);
        Check.is("rule 7, an index is looked at where it is used", arrayAccesses,
                List.of("entry: row[index]", "setEntry: row[index]"));
        Check.is("rule 7, divisors that are no constants, looked at", quotients,
                List.of("at.lastLaugh / tenfold", "pot * who.seconds / allSeconds"));
        for (String method : callsOf.keySet()) {
            List<String> deepest = deepest(method, new ArrayList<>());
            Check.is("rule 11, at most eight deep: " + deepest, deepest.size() <= 8, true);
            boolean recursive = reaches(method, method, new TreeSet<>());
            Check.is("rule 8, recursion of " + method, recursive, method.equals("TightFive.extendRow"));
        }
    }

    // --- where a tree stands ---

    private boolean isWithin(Class<? extends Tree> kind) {
        for (TreePath path = getCurrentPath().getParentPath(); path != null; path = path.getParentPath()) {
            if (kind.isInstance(path.getLeaf())) {
                return true;
            }
        }
        return false;
    }

    private <T extends Tree> T enclosing(Class<T> kind) {
        TreePath path = getCurrentPath().getParentPath();
        while (path != null && !kind.isInstance(path.getLeaf())) {
            path = path.getParentPath();
        }
        return path == null ? null : kind.cast(path.getLeaf());
    }

    private String methodName() {
        MethodTree method = enclosing(MethodTree.class);
        return method == null ? "a field" : method.getName().toString();
    }

    private long linesOf(Tree tree) {
        long start = trees.getSourcePositions().getStartPosition(unit, tree);
        long end = trees.getSourcePositions().getEndPosition(unit, tree);
        return unit.getLineMap().getLineNumber(end) - unit.getLineMap().getLineNumber(start) + 1;
    }

    private void never(String rule, Tree tree) {
        Check.is(rule + ", never: " + tree, "is there", "is not there");
    }

    // --- classes, fields, methods ---

    @Override
    public Void visitImport(ImportTree tree, Void none) {
        String name = tree.getQualifiedIdentifier().toString();
        Check.is("rule 4, import of " + name, IMPORTS.contains(name) && !tree.isStatic(), true);
        return super.visitImport(tree, none);
    }

    @Override
    public Void visitClass(ClassTree tree, Void none) {
        String name = tree.getSimpleName().toString();
        Set<Modifier> modifiers = tree.getModifiers().getFlags();
        classes.add(name);
        Check.is("rule 2, a class: " + name, tree.getKind(), Tree.Kind.CLASS);
        Check.is("rule 2, a member: " + name, isWithin(MethodTree.class), false);
        if (!name.equals("TightFive")) {
            Set<Modifier> due = Set.of(Modifier.PRIVATE, Modifier.STATIC, Modifier.FINAL);
            Check.is("rule 2, modifiers of " + name, modifiers, due);
        }
        int fields = 0;
        for (Tree member : tree.getMembers()) {
            boolean isField = member instanceof VariableTree;
            fields += isField && !isConstant((VariableTree) member) ? 1 : 0;
            boolean isInitialiser = member.getKind() == Tree.Kind.BLOCK;
            Check.is("rule 5, no initialiser block in " + name, isInitialiser, false);
        }
        Check.is("rule 11, some twenty fields of " + name, fields <= 20, true);
        return super.visitClass(tree, none);
    }

    private static boolean isConstant(VariableTree tree) {
        return tree.getModifiers().getFlags().contains(Modifier.STATIC);
    }

    @Override
    public Void visitVariable(VariableTree tree, Void none) {
        String type = String.valueOf(tree.getType());
        boolean isAllowed = PLAIN_TYPES.contains(type) || isOwn(type.replaceFirst("^ArrayList<(\\w+)>$", "$1"));
        Check.is("rule 3, the type of " + tree.getName() + ": " + type, isAllowed, true);
        if (isConstant(tree)) {
            boolean isFinal = tree.getModifiers().getFlags().contains(Modifier.FINAL);
            Check.is("rule 5, a constant number: " + tree.getName(), isFinal && type.equals("int"), true);
        }
        return super.visitVariable(tree, none);
    }

    private boolean isOwn(String name) {
        if (name.equals("TightFive")) {
            return true;
        }
        for (Tree member : ((ClassTree) unit.getTypeDecls().get(0)).getMembers()) {
            if (member instanceof ClassTree && ((ClassTree) member).getSimpleName().contentEquals(name)) {
                return true;
            }
        }
        return false;
    }

    @Override
    public Void visitMethod(MethodTree tree, Void none) {
        String name = nameOf(trees.getElement(getCurrentPath()));
        callsOf.computeIfAbsent(name, key -> new TreeSet<>());
        Check.is("rule 11, parameters of " + name, tree.getParameters().size() <= 7, true);
        Check.is("rule 11, lines of " + name, linesOf(tree) <= 60, true);
        return super.visitMethod(tree, none);
    }

    private static String nameOf(Element element) {
        return element.getEnclosingElement().getSimpleName() + "." + element.getSimpleName();
    }

    @Override
    public Void visitAnnotation(AnnotationTree tree, Void none) {
        never("rule 4", tree);
        return null;
    }

    // --- calls and new objects ---

    @Override
    public Void visitMethodInvocation(MethodInvocationTree tree, Void none) {
        noteCall(trees.getElement(getCurrentPath()), tree);
        String called = tree.getMethodSelect().toString();
        if (called.endsWith(".get") || called.endsWith(".remove")) {
            String size = called.substring(0, called.lastIndexOf('.')) + ".size()";
            MethodTree method = enclosing(MethodTree.class);
            boolean isAsked = method != null && method.toString().contains(size);
            Check.is("rule 7, a list's size is looked at: " + tree, isAsked, true);
        }
        return super.visitMethodInvocation(tree, none);
    }

    @Override
    public Void visitNewClass(NewClassTree tree, Void none) {
        boolean isThrown = getCurrentPath().getParentPath().getLeaf() instanceof ThrowTree;
        boolean isInLoop = isWithin(ForLoopTree.class);
        Check.is("rule 2, no class without a name: " + tree, tree.getClassBody() == null, true);
        Check.is("rule 12, made in a loop: " + tree, isInLoop, tree.toString().equals("new Scene(chain)"));
        if (!isThrown) {
            noteCall(trees.getElement(getCurrentPath()), tree);
        }
        return super.visitNewClass(tree, none);
    }

    @Override
    public Void visitNewArray(NewArrayTree tree, Void none) {
        Check.is("rule 12, arrays are made with their objects: " + tree, methodName(), "a field");
        Check.is("rule 7, of a constant length: " + tree, tree.getDimensions().toString().matches("[A-Z_]+"), true);
        return super.visitNewArray(tree, none);
    }

    private void noteCall(Element called, Tree tree) {
        TypeElement owner = (TypeElement) called.getEnclosingElement();
        String name = nameOf(called);
        if (!owner.getQualifiedName().toString().startsWith("TightFive")) {
            Check.is("rules 4 and 13, a call: " + tree, CALLS.contains(name), true);
            return;
        }
        MethodTree caller = enclosing(MethodTree.class);
        if (caller != null) {
            Element calling = trees.getElement(TreePath.getPath(unit, caller));
            boolean isMade = calling.getSimpleName().contentEquals("<init>");
            Check.is("rule 12, a constructor calls nothing of its own: " + tree,
                    isMade && tree instanceof MethodInvocationTree, false);
            callsOf.computeIfAbsent(nameOf(calling), key -> new TreeSet<>()).add(name);
        }
    }

    private List<String> deepest(String method, List<String> open) {
        if (!callsOf.containsKey(method) || open.contains(method)) {
            return open;
        }
        List<String> path = new ArrayList<>(open);
        path.add(method);
        List<String> longest = path;
        for (String called : callsOf.get(method)) {
            List<String> deeper = deepest(called, path);
            longest = deeper.size() > longest.size() ? deeper : longest;
        }
        return longest;
    }

    private boolean reaches(String from, String to, Set<String> seen) {
        for (String called : callsOf.getOrDefault(from, Set.of())) {
            if (called.equals(to) || seen.add(called) && reaches(called, to, seen)) {
                return true;
            }
        }
        return false;
    }

    // --- what may throw ---

    @Override
    public Void visitThrow(ThrowTree tree, Void none) {
        boolean isPlain = tree.getExpression() instanceof NewClassTree;
        Check.is("rule 6, throws a new one: " + tree, isPlain, true);
        Check.is("rule 6, no throw in a constructor: " + tree, methodName().equals("<init>"), false);
        if (isPlain) {
            NewClassTree thrown = (NewClassTree) tree.getExpression();
            boolean isListed = EXCEPTIONS.contains(thrown.getIdentifier().toString());
            Check.is("rule 6, one of the exceptions: " + tree, isListed, true);
            for (ExpressionTree text : thrown.getArguments()) {
                Check.is("rule 6, a written text: " + tree, text instanceof LiteralTree, true);
            }
        }
        return super.visitThrow(tree, none);
    }

    @Override
    public Void visitArrayAccess(ArrayAccessTree tree, Void none) {
        boolean isTested = enclosing(IfTree.class) != null || enclosing(ConditionalExpressionTree.class) != null;
        Check.is("rule 7, an index is looked at: " + tree, isTested, true);
        arrayAccesses.add(methodName() + ": " + tree);
        return super.visitArrayAccess(tree, none);
    }

    @Override
    public Void visitBinary(BinaryTree tree, Void none) {
        boolean isQuotient = tree.getKind() == Tree.Kind.DIVIDE || tree.getKind() == Tree.Kind.REMAINDER;
        String divisor = tree.getRightOperand().toString();
        boolean isCast = tree.getRightOperand() instanceof TypeCastTree;
        if (isQuotient && !isCast && !divisor.matches("[1-9]\\d*|[A-Z_]+")) {
            quotients.add(tree.toString());
            ConditionalExpressionTree test = enclosing(ConditionalExpressionTree.class);
            boolean isTested = test != null && test.getCondition().toString().contains(divisor + " > 0");
            Check.is("rule 7, a divisor is looked at: " + tree, isTested, true);
        }
        String type = trees.getTypeMirror(getCurrentPath()).toString();
        Check.is("rule 10, no texts are joined by +: " + tree, type.equals("java.lang.String"), false);
        return super.visitBinary(tree, none);
    }

    @Override
    public Void visitTypeCast(TypeCastTree tree, Void none) {
        boolean isOfNumbers = tree.getType().toString().matches("long|float|double");
        Check.is("rule 7, casts of numbers alone: " + tree, isOfNumbers, true);
        return super.visitTypeCast(tree, none);
    }

    // --- loops ---

    @Override
    public Void visitForLoop(ForLoopTree tree, Void none) {
        String head = tree.getInitializer() + " " + tree.getCondition() + " " + tree.getUpdate();
        String counter = tree.getUpdate().toString().replaceFirst("^(\\w+)\\+\\+;?$", "$1");
        boolean isBounded = tree.getCondition() != null
                && tree.getCondition().toString().matches("\\(?" + counter + " < .*");
        Check.is("rule 9, a counter against a bound: " + head, isBounded, true);
        boolean isChanged = tree.getStatement().toString().matches("(?s).*\\b" + counter + "(\\+\\+|--| [-+*/]?= ).*");
        Check.is("rule 9, the counter is left alone: " + head, isChanged, false);
        return super.visitForLoop(tree, none);
    }

    @Override
    public Void visitWhileLoop(WhileLoopTree tree, Void none) {
        never("rule 9", tree);
        return null;
    }

    @Override
    public Void visitDoWhileLoop(DoWhileLoopTree tree, Void none) {
        never("rule 9", tree);
        return null;
    }

    @Override
    public Void visitEnhancedForLoop(EnhancedForLoopTree tree, Void none) {
        never("rule 12", tree);
        return null;
    }

    // --- what the program has no need of ---

    @Override
    public Void visitLambdaExpression(LambdaExpressionTree tree, Void none) {
        never("rule 2", tree);
        return null;
    }

    @Override
    public Void visitMemberReference(MemberReferenceTree tree, Void none) {
        never("rule 2", tree);
        return null;
    }

    @Override
    public Void visitInstanceOf(InstanceOfTree tree, Void none) {
        never("rule 6", tree);
        return null;
    }

    @Override
    public Void visitTry(TryTree tree, Void none) {
        never("rule 6", tree);
        return null;
    }

    @Override
    public Void visitSynchronized(SynchronizedTree tree, Void none) {
        never("rule 6", tree);
        return null;
    }

    @Override
    public Void visitAssert(AssertTree tree, Void none) {
        never("rule 6", tree);
        return null;
    }
}
