import com.sun.source.tree.BinaryTree;
import com.sun.source.tree.BlockTree;
import com.sun.source.tree.ClassTree;
import com.sun.source.tree.CompilationUnitTree;
import com.sun.source.tree.ForLoopTree;
import com.sun.source.tree.ImportTree;
import com.sun.source.tree.MethodInvocationTree;
import com.sun.source.tree.MethodTree;
import com.sun.source.tree.NewArrayTree;
import com.sun.source.tree.NewClassTree;
import com.sun.source.tree.ThrowTree;
import com.sun.source.tree.Tree;
import com.sun.source.tree.TryTree;
import com.sun.source.tree.VariableTree;
import com.sun.source.tree.WhileLoopTree;
import com.sun.source.util.JavacTask;
import com.sun.source.util.TreePath;
import com.sun.source.util.TreePathScanner;
import com.sun.source.util.Trees;
import java.io.IOException;
import java.nio.file.Path;
import java.util.ArrayList;
import java.util.EnumSet;
import java.util.LinkedHashMap;
import java.util.LinkedHashSet;
import java.util.List;
import java.util.Map;
import java.util.Set;
import javax.lang.model.element.Element;
import javax.lang.model.element.ElementKind;
import javax.lang.model.element.ExecutableElement;
import javax.lang.model.element.Modifier;
import javax.lang.model.element.TypeElement;
import javax.tools.JavaCompiler;
import javax.tools.StandardJavaFileManager;
import javax.tools.ToolProvider;

/** The rules of LANGUAGE.md, each by its number, as far as they can be seen in the source. */
final class RulesTest extends TreePathScanner<Void, Void> {
    private static final Path SOURCE = Path.of("src/main/java/LoopLifter.java");
    private static final Set<Tree.Kind> RULED_OUT = EnumSet.of(
            Tree.Kind.LAMBDA_EXPRESSION, Tree.Kind.MEMBER_REFERENCE, Tree.Kind.SYNCHRONIZED, Tree.Kind.ASSERT);
    private static final Set<String> EXCEPTIONS = Set.of(
            "IllegalStateException", "IllegalArgumentException", "IndexOutOfBoundsException", "ArithmeticException",
            "UnsupportedOperationException", "NoSuchElementException", "RuntimeException");
    private static final Set<String> IMPORTS = Set.of(
            "java.util.NoSuchElementException", "java.util.ArrayList", "java.util.List", "java.util.Arrays",
            "java.util.Iterator");
    /** What rule 4 lists of String, System and Arrays; lists and StringBuilder, too, once they are used. */
    private static final Set<String> LIBRARY = Set.of(
            "String.length", "String.charAt", "String.isEmpty", "String.equals", "String.indexOf",
            "String.substring", "String.toCharArray", "System.arraycopy", "Arrays.copyOf", "Arrays.copyOfRange",
            "Arrays.fill", "Object.<init>");
    /** Of these all but those whose name ends in Exact, over int and long. */
    private static final Set<String> STATIC_FUNCTIONS = Set.of("Math", "Integer", "Long");
    private static final Set<String> TYPES = Set.of(
            "int", "long", "short", "byte", "char", "boolean", "int[]", "long[]", "short[]", "byte[]", "char[]",
            "boolean[]", "int[][]", "long[][]", "String", "void");
    private static final Set<String> STATIC_TYPES =
            Set.of("int", "long", "boolean", "char", "String", "int[]", "long[]", "char[]", "byte[]");

    private static final int MOST_PARAMETERS = 7;
    private static final int MOST_LINES = 60;
    private static final int MOST_CALLS_DEEP = 8;
    private static final int MOST_CLASSES = 12;
    private static final int MOST_FIELDS = 20;

    private final Trees trees;
    private final Map<ExecutableElement, Set<ExecutableElement>> calls = new LinkedHashMap<>();
    private final List<TypeElement> classes = new ArrayList<>();
    private final Set<String> face = new LinkedHashSet<>();

    private RulesTest(Trees trees) {
        this.trees = trees;
    }

    public static void main(String[] args) throws IOException {
        JavaCompiler compiler = ToolProvider.getSystemJavaCompiler();
        try (StandardJavaFileManager files = compiler.getStandardFileManager(null, null, null)) {
            JavacTask task = (JavacTask) compiler.getTask(
                    null, files, null, List.of("-proc:none"), null, files.getJavaFileObjects(SOURCE));
            Iterable<? extends CompilationUnitTree> units = task.parse();
            task.analyze();
            RulesTest test = new RulesTest(Trees.instance(task));
            test.scan(units, null);
            test.namesOfTheFace();
            test.recursion();
            test.callsDeep();
            Check.same("rule 11, some twelve classes", test.classes.size() <= MOST_CLASSES, true);
        }
        Check.end();
    }

    private void holds(String rule, boolean kept) {
        TreePath path = getCurrentPath();
        long start = trees.getSourcePositions().getStartPosition(path.getCompilationUnit(), path.getLeaf());
        Check.same(rule + ", line " + path.getCompilationUnit().getLineMap().getLineNumber(start), kept, true);
    }

    private static String simple(Object type) {
        return type.toString().replaceAll("\\b[a-z]+\\.", "");
    }

    private static boolean isOwn(Element type) {
        return type.toString().equals("LoopLifter") || type.toString().startsWith("LoopLifter.");
    }

    @Override
    public Void scan(Tree tree, Void unused) {
        if (tree != null && getCurrentPath() != null) {
            holds("rules 2 and 6, nothing of the kind " + tree.getKind(), !RULED_OUT.contains(tree.getKind()));
        }
        return super.scan(tree, unused);
    }

    @Override
    public Void visitImport(ImportTree tree, Void unused) {
        String name = tree.getQualifiedIdentifier().toString();
        holds("rule 4, import of " + name, IMPORTS.contains(name));
        return super.visitImport(tree, unused);
    }

    @Override
    public Void visitClass(ClassTree tree, Void unused) {
        TypeElement type = (TypeElement) trees.getElement(getCurrentPath());
        classes.add(type);
        boolean outermost = classes.size() == 1;
        Set<Modifier> modifiers = type.getModifiers();
        holds("rule 1, " + type + " is the face or hidden in it", outermost
                ? modifiers.containsAll(Set.of(Modifier.PUBLIC, Modifier.FINAL))
                : modifiers.contains(Modifier.STATIC) && !modifiers.contains(Modifier.PUBLIC)
                        && !modifiers.contains(Modifier.PROTECTED));
        holds("rule 2, " + type + " is no local class", outermost || isOwn(type.getEnclosingElement()));
        int fields = 0;
        for (Element member : type.getEnclosedElements()) {
            boolean isStatic = member.getModifiers().contains(Modifier.STATIC);
            fields += member.getKind() == ElementKind.FIELD && !isStatic ? 1 : 0;
            if (outermost && member.getModifiers().contains(Modifier.PUBLIC)) {
                face.add(member.getSimpleName().toString());
            }
        }
        holds("rule 11, some twenty fields in " + type, fields <= MOST_FIELDS);
        return super.visitClass(tree, unused);
    }

    @Override
    public Void visitVariable(VariableTree tree, Void unused) {
        Element variable = trees.getElement(getCurrentPath());
        isAllowed("rule 3, the type of " + tree.getName(), variable.asType().toString());
        if (variable.getModifiers().contains(Modifier.STATIC)) {
            holds("rule 5, " + tree.getName() + " is final", variable.getModifiers().contains(Modifier.FINAL));
            holds("rule 5, the type of " + tree.getName(), STATIC_TYPES.contains(simple(variable.asType())));
        }
        return super.visitVariable(tree, unused);
    }

    private void isAllowed(String rule, String type) {
        boolean own = type.replaceAll("\\[\\]$", "").matches("LoopLifter(\\.\\w+)?");
        holds(rule + ": " + type, own || TYPES.contains(simple(type)));
    }

    @Override
    public Void visitMethod(MethodTree tree, Void unused) {
        ExecutableElement method = (ExecutableElement) trees.getElement(getCurrentPath());
        calls.computeIfAbsent(method, key -> new LinkedHashSet<>());
        isAllowed("rule 3, what " + method + " answers", method.getReturnType().toString());
        holds("rule 11, the parameters of " + method, tree.getParameters().size() <= MOST_PARAMETERS);
        holds("rule 11, the lines of " + method, lines(tree) <= MOST_LINES);
        return super.visitMethod(tree, unused);
    }

    private long lines(Tree tree) {
        CompilationUnitTree unit = getCurrentPath().getCompilationUnit();
        long start = trees.getSourcePositions().getStartPosition(unit, tree);
        long end = trees.getSourcePositions().getEndPosition(unit, tree);
        // A constructor that nobody wrote has no place of its own.
        return end < start ? 0 : unit.getLineMap().getLineNumber(end) - unit.getLineMap().getLineNumber(start) + 1;
    }

    private ExecutableElement methodAround() {
        for (TreePath path = getCurrentPath(); path != null; path = path.getParentPath()) {
            if (path.getLeaf() instanceof MethodTree) {
                return (ExecutableElement) trees.getElement(path);
            }
        }
        return null;
    }

    private void noteCall(ExecutableElement called) {
        ExecutableElement around = methodAround();
        if (around != null) {
            calls.computeIfAbsent(around, key -> new LinkedHashSet<>()).add(called);
        }
    }

    @Override
    public Void visitMethodInvocation(MethodInvocationTree tree, Void unused) {
        ExecutableElement called = (ExecutableElement) trees.getElement(
                new TreePath(getCurrentPath(), tree.getMethodSelect()));
        Element owner = called.getEnclosingElement();
        String name = owner.getSimpleName() + "." + called.getSimpleName();
        if (isOwn(owner)) {
            noteCall(called);
        } else {
            boolean function = STATIC_FUNCTIONS.contains(owner.getSimpleName().toString()) && !name.endsWith("Exact")
                    && called.getModifiers().contains(Modifier.STATIC);
            holds("rule 4, a call of " + name, function || LIBRARY.contains(name));
        }
        return super.visitMethodInvocation(tree, unused);
    }

    @Override
    public Void visitNewClass(NewClassTree tree, Void unused) {
        ExecutableElement called = (ExecutableElement) trees.getElement(getCurrentPath());
        Element type = called.getEnclosingElement();
        if (isOwn(type)) {
            noteCall(called);
            isMadeOnce();
        } else {
            boolean thrown = getCurrentPath().getParentPath().getLeaf() instanceof ThrowTree;
            holds("rules 4 and 6, a new " + type, thrown && EXCEPTIONS.contains(type.getSimpleName().toString()));
        }
        return super.visitNewClass(tree, unused);
    }

    @Override
    public Void visitNewArray(NewArrayTree tree, Void unused) {
        isMadeOnce();
        return super.visitNewArray(tree, unused);
    }

    /** Stricter than rule 12, for the sake of the one room: a call makes nothing but an exception. */
    private void isMadeOnce() {
        ExecutableElement around = methodAround();
        holds("the room, made in a constructor", around == null || around.getKind() == ElementKind.CONSTRUCTOR);
    }

    @Override
    public Void visitThrow(ThrowTree tree, Void unused) {
        boolean made = tree.getExpression() instanceof NewClassTree;
        holds("rule 6, what is thrown is made there", made);
        if (made) {
            for (Tree argument : ((NewClassTree) tree.getExpression()).getArguments()) {
                holds("rule 6, with a written text", argument.getKind() == Tree.Kind.STRING_LITERAL);
            }
        }
        ExecutableElement around = methodAround();
        holds("rule 6, not in a constructor", around != null && around.getKind() == ElementKind.METHOD);
        return super.visitThrow(tree, unused);
    }

    @Override
    public Void visitTry(TryTree tree, Void unused) {
        holds("rule 6, no finally and no resources", tree.getFinallyBlock() == null && tree.getResources().isEmpty());
        return super.visitTry(tree, unused);
    }

    @Override
    public Void visitBlock(BlockTree tree, Void unused) {
        holds("rule 5, no static block", !tree.isStatic());
        return super.visitBlock(tree, unused);
    }

    @Override
    public Void visitForLoop(ForLoopTree tree, Void unused) {
        holds("rule 9, a bound", tree.getCondition() != null && !tree.getUpdate().isEmpty());
        return super.visitForLoop(tree, unused);
    }

    @Override
    public Void visitWhileLoop(WhileLoopTree tree, Void unused) {
        holds("rule 9, an end", !tree.getCondition().toString().equals("(true)"));
        return super.visitWhileLoop(tree, unused);
    }

    @Override
    public Void visitBinary(BinaryTree tree, Void unused) {
        boolean joins = tree.getKind() == Tree.Kind.PLUS
                && simple(trees.getTypeMirror(getCurrentPath())).equals("String");
        holds("rule 10, texts are not joined by +", !joins);
        return super.visitBinary(tree, unused);
    }

    private void namesOfTheFace() {
        for (ExecutableElement method : calls.keySet()) {
            boolean isPublic = method.getModifiers().contains(Modifier.PUBLIC);
            String name = method.getSimpleName().toString();
            boolean constructor = method.getKind() == ElementKind.CONSTRUCTOR;
            Check.same("rule 1, the name " + name, isPublic || constructor || !face.contains(name), true);
        }
    }

    /** A method that may come to itself again must carry the depth. */
    private void recursion() {
        for (ExecutableElement method : calls.keySet()) {
            if (reachable(method).contains(method)) {
                boolean carries = method.getParameters().stream().anyMatch(p -> p.getSimpleName().contentEquals("depth"));
                Check.same("rule 8, " + method + " carries its depth", carries, true);
            }
        }
    }

    private Set<ExecutableElement> reachable(ExecutableElement from) {
        Set<ExecutableElement> reached = new LinkedHashSet<>();
        List<ExecutableElement> open = new ArrayList<>(targets(from));
        while (!open.isEmpty()) {
            ExecutableElement method = open.remove(open.size() - 1);
            if (reached.add(method)) {
                open.addAll(targets(method));
            }
        }
        return reached;
    }

    /** What a call may come to: the method itself, or one of its name in a class that extends its own. */
    private Set<ExecutableElement> targets(ExecutableElement from) {
        Set<ExecutableElement> targets = new LinkedHashSet<>();
        for (ExecutableElement called : calls.getOrDefault(from, Set.of())) {
            targets.add(called);
            for (ExecutableElement other : calls.keySet()) {
                TypeElement type = (TypeElement) other.getEnclosingElement();
                boolean extending = type.getSuperclass().toString().equals(called.getEnclosingElement().toString());
                if (extending && other.getSimpleName().equals(called.getSimpleName())
                        && called.getKind() == ElementKind.METHOD) {
                    targets.add(other);
                }
            }
        }
        return targets;
    }

    /** Stricter than the rule: the methods of a recursion count too, each once. */
    private void callsDeep() {
        for (ExecutableElement method : calls.keySet()) {
            List<ExecutableElement> longest = longestChain(method, new ArrayList<>());
            Check.same("rule 11, calls eight deep: " + longest, longest.size() - 1 <= MOST_CALLS_DEEP, true);
        }
    }

    private List<ExecutableElement> longestChain(ExecutableElement from, List<ExecutableElement> before) {
        List<ExecutableElement> chain = new ArrayList<>(before);
        chain.add(from);
        List<ExecutableElement> longest = chain;
        for (ExecutableElement target : targets(from)) {
            if (!chain.contains(target)) {
                List<ExecutableElement> longer = longestChain(target, chain);
                longest = longer.size() > longest.size() ? longer : longest;
            }
        }
        return longest;
    }
}
