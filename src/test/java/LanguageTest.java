import com.sun.source.tree.AssertTree;
import com.sun.source.tree.BinaryTree;
import com.sun.source.tree.BlockTree;
import com.sun.source.tree.ClassTree;
import com.sun.source.tree.CompilationUnitTree;
import com.sun.source.tree.EnhancedForLoopTree;
import com.sun.source.tree.ExpressionTree;
import com.sun.source.tree.ImportTree;
import com.sun.source.tree.LambdaExpressionTree;
import com.sun.source.tree.LiteralTree;
import com.sun.source.tree.MemberReferenceTree;
import com.sun.source.tree.MethodInvocationTree;
import com.sun.source.tree.MethodTree;
import com.sun.source.tree.NewClassTree;
import com.sun.source.tree.SynchronizedTree;
import com.sun.source.tree.ThrowTree;
import com.sun.source.tree.Tree;
import com.sun.source.tree.TryTree;
import com.sun.source.tree.VariableTree;
import com.sun.source.util.JavacTask;
import com.sun.source.util.SourcePositions;
import com.sun.source.util.TreePath;
import com.sun.source.util.TreePathScanner;
import com.sun.source.util.Trees;
import java.io.IOException;
import java.nio.file.Path;
import java.util.ArrayDeque;
import java.util.Deque;
import java.util.HashMap;
import java.util.HashSet;
import java.util.List;
import java.util.Map;
import java.util.Set;
import javax.lang.model.element.Element;
import javax.lang.model.element.ElementKind;
import javax.lang.model.element.Modifier;
import javax.lang.model.type.TypeKind;
import javax.tools.JavaCompiler;
import javax.tools.StandardJavaFileManager;
import javax.tools.ToolProvider;

/** The program keeps to the rules of ../shared/LANGUAGE.md, as far as they can be seen from its lines. */
public final class LanguageTest {
    private static final Path PROGRAM = Path.of("src", "main", "java", "VersionSolver.java");
    private static final int MOST_PARAMETERS = 7;
    private static final int MOST_LINES = 60;
    private static final int MOST_OPEN_CALLS = 8;
    private static final int MOST_CLASSES = 12;
    private static final int MOST_FIELDS = 20;

    /** What the program uses of the library that rule 4 leaves; one thing more is looked up there first. */
    private static final Set<String> LIBRARY = Set.of(
            "ArrayList.<init>", "ArrayList.add", "ArrayList.get", "ArrayList.size",
            "Arrays.copyOf", "Arrays.copyOfRange", "Arrays.fill", "System.arraycopy",
            "Integer.compare", "Integer.bitCount", "Long.bitCount", "Math.min");
    private static final Set<String> IMPORTS = Set.of("java.util.ArrayList", "java.util.Arrays", "java.util.List");
    private static final Set<String> EXCEPTIONS = Set.of(
            "IllegalStateException", "IllegalArgumentException", "IndexOutOfBoundsException", "ArithmeticException",
            "UnsupportedOperationException", "NoSuchElementException", "RuntimeException");
    private static final Set<TypeKind> CONSTANTS = Set.of(
            TypeKind.INT, TypeKind.LONG, TypeKind.BOOLEAN, TypeKind.CHAR, TypeKind.ARRAY);

    private static int wrong = 0;

    public static void main(String[] args) throws IOException {
        JavaCompiler compiler = ToolProvider.getSystemJavaCompiler();
        try (StandardJavaFileManager files = compiler.getStandardFileManager(null, null, null)) {
            JavacTask task = (JavacTask) compiler.getTask(
                    null, files, null, List.of("-proc:none"), null, files.getJavaFileObjects(PROGRAM));
            CompilationUnitTree file = task.parse().iterator().next();
            task.analyze();
            Reader reader = new Reader(file, Trees.instance(task));
            reader.scan(file, null);
            check(11, "at most " + MOST_CLASSES + " classes, not " + reader.classes, reader.classes <= MOST_CLASSES);
            checkCalls(reader);
        }
        System.out.println(wrong == 0 ? "the program keeps to the rules" : wrong + " breaches of the rules");
        if (wrong != 0) {
            System.exit(1);
        }
    }

    private static void check(int rule, String what, boolean holds) {
        if (!holds) {
            wrong++;
            System.out.println("rule " + rule + ": " + what);
        }
    }

    private static void checkCalls(Reader reader) {
        for (Map.Entry<Element, Set<Element>> entry : reader.calls.entrySet()) {
            Element caller = entry.getKey();
            boolean guarded = reader.withDepth.contains(caller);
            check(8, caller + " calls itself and is told no depth",
                    guarded || !leadsTo(reader.calls, entry.getValue(), caller));
            Deque<Element> open = new ArrayDeque<>();
            int deepest = deepest(reader.calls, caller, open);
            check(11, caller + " opens " + deepest + " calls", deepest <= MOST_OPEN_CALLS);
        }
    }

    private static boolean leadsTo(Map<Element, Set<Element>> calls, Set<Element> from, Element goal) {
        Deque<Element> left = new ArrayDeque<>(from);
        Set<Element> seen = new HashSet<>(from);
        while (!left.isEmpty()) {
            Element called = left.pop();
            if (called.equals(goal)) {
                return true;
            }
            for (Element next : calls.getOrDefault(called, Set.of())) {
                if (seen.add(next)) {
                    left.push(next);
                }
            }
        }
        return false;
    }

    /** How many calls stand open at most, this one and the library's counted; a recursion counts once. */
    private static int deepest(Map<Element, Set<Element>> calls, Element caller, Deque<Element> open) {
        if (open.contains(caller)) {
            return 0;
        }
        open.push(caller);
        int most = 0;
        for (Element called : calls.getOrDefault(caller, Set.of())) {
            most = Math.max(most, deepest(calls, called, open));
        }
        open.pop();
        return 1 + most;
    }

    /** Looks at each part of the program, and collects which method calls which. */
    private static final class Reader extends TreePathScanner<Void, Element> {
        final CompilationUnitTree file;
        final Trees trees;
        final Map<Element, Set<Element>> calls = new HashMap<>();
        final Set<Element> withDepth = new HashSet<>();
        int classes;

        Reader(CompilationUnitTree file, Trees trees) {
            this.file = file;
            this.trees = trees;
        }

        @Override
        public Void visitImport(ImportTree node, Element within) {
            String name = node.getQualifiedIdentifier().toString();
            check(4, "no import of " + name, !node.isStatic() && IMPORTS.contains(name));
            return super.visitImport(node, within);
        }

        @Override
        public Void visitClass(ClassTree node, Element within) {
            classes++;
            Set<Modifier> kinds = node.getModifiers().getFlags();
            boolean outermost = getCurrentPath().getParentPath().getLeaf().getKind() == Tree.Kind.COMPILATION_UNIT;
            check(1, node.getSimpleName() + " is static and not for others", outermost
                    || kinds.contains(Modifier.STATIC) && !kinds.contains(Modifier.PUBLIC)
                            && !kinds.contains(Modifier.PROTECTED));
            int fields = 0;
            for (Tree member : node.getMembers()) {
                if (member instanceof VariableTree && !isConstant((VariableTree) member)) {
                    fields++;
                }
                check(5, "no initialiser block", !(member instanceof BlockTree));
            }
            check(11, node.getSimpleName() + " has " + fields + " fields", fields <= MOST_FIELDS);
            return super.visitClass(node, trees.getElement(getCurrentPath()));
        }

        private static boolean isConstant(VariableTree field) {
            return field.getModifiers().getFlags().contains(Modifier.STATIC);
        }

        @Override
        public Void visitVariable(VariableTree node, Element within) {
            if (isConstant(node)) {
                Element field = trees.getElement(getCurrentPath());
                boolean text = field.asType().toString().equals("java.lang.String");
                check(5, node.getName() + " is a final constant", field.getModifiers().contains(Modifier.FINAL)
                        && (text || CONSTANTS.contains(field.asType().getKind())));
            }
            return super.visitVariable(node, within);
        }

        @Override
        public Void visitMethod(MethodTree node, Element within) {
            Element method = trees.getElement(getCurrentPath());
            calls.computeIfAbsent(method, key -> new HashSet<>());
            int parameters = node.getParameters().size();
            check(11, method + " takes " + parameters + " arguments", parameters <= MOST_PARAMETERS);
            check(11, method + " has " + lines(node) + " lines", lines(node) <= MOST_LINES);
            for (VariableTree parameter : node.getParameters()) {
                if (parameter.getName().contentEquals("depth")) {
                    withDepth.add(method);
                }
            }
            return super.visitMethod(node, method);
        }

        private long lines(Tree node) {
            SourcePositions places = trees.getSourcePositions();
            long end = places.getEndPosition(file, node);
            // A constructor that is not written has no end.
            return end < 0 ? 0 : file.getLineMap().getLineNumber(end)
                    - file.getLineMap().getLineNumber(places.getStartPosition(file, node)) + 1;
        }

        @Override
        public Void visitMethodInvocation(MethodInvocationTree node, Element within) {
            Element called = trees.getElement(new TreePath(getCurrentPath(), node.getMethodSelect()));
            if (!isObjects(called)) {
                addCall(within, called);
                checkLibrary(called);
            }
            return super.visitMethodInvocation(node, within);
        }

        /** The call of Object's constructor that javac puts into each constructor. */
        private static boolean isObjects(Element called) {
            return called.getKind() == ElementKind.CONSTRUCTOR
                    && called.getEnclosingElement().getSimpleName().contentEquals("Object");
        }

        @Override
        public Void visitNewClass(NewClassTree node, Element within) {
            Element called = trees.getElement(getCurrentPath());
            addCall(within, called);
            if (getCurrentPath().getParentPath().getLeaf().getKind() != Tree.Kind.THROW) {
                checkLibrary(called);
            }
            return super.visitNewClass(node, within);
        }

        /** What stands beside a field counts as called by the class itself. */
        private void addCall(Element within, Element called) {
            calls.computeIfAbsent(within, key -> new HashSet<>()).add(called);
        }

        private void checkLibrary(Element called) {
            Element owner = called.getEnclosingElement();
            String name = owner.getSimpleName() + "." + called.getSimpleName();
            boolean own = owner.toString().startsWith("VersionSolver");
            check(4, name + " is not known to be in the list", own || LIBRARY.contains(name));
        }

        @Override
        public Void visitThrow(ThrowTree node, Element within) {
            check(6, "throw new E() or E(\"a written text\") alone", isAllowed(node.getExpression()));
            check(6, "no throw in a constructor", within.getKind() != ElementKind.CONSTRUCTOR);
            return super.visitThrow(node, within);
        }

        private static boolean isAllowed(ExpressionTree thrown) {
            if (!(thrown instanceof NewClassTree)) {
                return false;
            }
            NewClassTree made = (NewClassTree) thrown;
            List<? extends ExpressionTree> texts = made.getArguments();
            return EXCEPTIONS.contains(made.getIdentifier().toString())
                    && (texts.isEmpty() || texts.size() == 1 && texts.get(0) instanceof LiteralTree);
        }

        @Override
        public Void visitTry(TryTree node, Element within) {
            check(6, "no finally and no resources",
                    node.getFinallyBlock() == null && node.getResources().isEmpty());
            return super.visitTry(node, within);
        }

        @Override
        public Void visitAssert(AssertTree node, Element within) {
            check(6, "no assert", false);
            return super.visitAssert(node, within);
        }

        @Override
        public Void visitSynchronized(SynchronizedTree node, Element within) {
            check(6, "no synchronized", false);
            return super.visitSynchronized(node, within);
        }

        @Override
        public Void visitLambdaExpression(LambdaExpressionTree node, Element within) {
            check(2, "no lambda", false);
            return super.visitLambdaExpression(node, within);
        }

        @Override
        public Void visitMemberReference(MemberReferenceTree node, Element within) {
            check(2, "no method reference", false);
            return super.visitMemberReference(node, within);
        }

        @Override
        public Void visitBinary(BinaryTree node, Element within) {
            boolean isText = trees.getTypeMirror(getCurrentPath()).toString().equals("java.lang.String");
            check(10, "texts are not joined by +", !isText);
            return super.visitBinary(node, within);
        }

        @Override
        public Void visitEnhancedForLoop(EnhancedForLoopTree node, Element within) {
            TreePath over = new TreePath(getCurrentPath(), node.getExpression());
            check(12, "loops over a list go by index", trees.getTypeMirror(over).getKind() == TypeKind.ARRAY);
            return super.visitEnhancedForLoop(node, within);
        }
    }
}
