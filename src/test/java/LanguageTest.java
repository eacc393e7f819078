import com.sun.source.tree.AssertTree;
import com.sun.source.tree.BinaryTree;
import com.sun.source.tree.BlockTree;
import com.sun.source.tree.ClassTree;
import com.sun.source.tree.CompilationUnitTree;
import com.sun.source.tree.ForLoopTree;
import com.sun.source.tree.ImportTree;
import com.sun.source.tree.LambdaExpressionTree;
import com.sun.source.tree.LiteralTree;
import com.sun.source.tree.MemberReferenceTree;
import com.sun.source.tree.MethodInvocationTree;
import com.sun.source.tree.MethodTree;
import com.sun.source.tree.NewArrayTree;
import com.sun.source.tree.NewClassTree;
import com.sun.source.tree.SynchronizedTree;
import com.sun.source.tree.ThrowTree;
import com.sun.source.tree.Tree;
import com.sun.source.tree.TryTree;
import com.sun.source.tree.VariableTree;
import com.sun.source.tree.WhileLoopTree;
import com.sun.source.util.JavacTask;
import com.sun.source.util.SourcePositions;
import com.sun.source.util.TreePath;
import com.sun.source.util.TreePathScanner;
import com.sun.source.util.Trees;
import java.io.IOException;
import java.nio.file.Path;
import java.util.LinkedHashMap;
import java.util.LinkedHashSet;
import java.util.List;
import java.util.Map;
import java.util.Set;
import javax.lang.model.element.Element;
import javax.lang.model.element.ExecutableElement;
import javax.lang.model.element.Modifier;
import javax.lang.model.element.TypeElement;
import javax.lang.model.type.TypeKind;
import javax.lang.model.type.TypeMirror;
import javax.tools.JavaCompiler;
import javax.tools.StandardJavaFileManager;
import javax.tools.ToolProvider;

/**
 * The rules of ../shared/LANGUAGE.md that can be read off the program's text. Where the program does
 * with less than a rule leaves (no try, no recursion, no doubles), it is held to that.
 */
public final class LanguageTest {
    private static final Path MAIN = Path.of("src/main/java/UnikernelHttp.java");
    private static final Set<String> IMPORTS = Set.of("java.util.Arrays", "java.util.NoSuchElementException");
    private static final Set<String> LIBRARY = Set.of("String.length", "String.charAt", "Math.max", "Math.min",
            "Arrays.fill", "System.arraycopy", "Object.<init>");
    private static final Set<String> THROWN = Set.of("IllegalStateException", "IllegalArgumentException",
            "IndexOutOfBoundsException", "NoSuchElementException");
    private static final Set<String> FACE = Set.of("<init>", "feed", "cut", "arrive", "page", "damage", "tick",
            "size", "bytes", "count", "connection");
    private static final Set<String> CONSTANTS = Set.of("int", "long", "boolean", "char", "java.lang.String");
    private static final Set<String> NUMBERS = Set.of("int", "long", "short", "byte", "char", "boolean");

    public static void main(String[] args) throws IOException {
        JavaCompiler compiler = ToolProvider.getSystemJavaCompiler();
        try (StandardJavaFileManager files = compiler.getStandardFileManager(null, null, null)) {
            JavacTask task = (JavacTask) compiler.getTask(null, files, null, List.of("-proc:none"), null,
                    files.getJavaFileObjects(MAIN));
            CompilationUnitTree unit = task.parse().iterator().next();
            task.analyze();
            Reader reader = new Reader(unit, Trees.instance(task));
            reader.scan(unit, null);
            reader.whole();
        }
        Check.end();
    }

    /** Reads the whole text once, and looks at each of its parts. */
    private static final class Reader extends TreePathScanner<Void, Void> {
        private final CompilationUnitTree unit;
        private final Trees trees;
        private final Map<ExecutableElement, Set<ExecutableElement>> calls = new LinkedHashMap<>();
        private int classes;

        private Reader(CompilationUnitTree unit, Trees trees) {
            this.unit = unit;
            this.trees = trees;
        }

        private Element element() {
            return trees.getElement(getCurrentPath());
        }

        private void rule(int number, Tree where, boolean kept) {
            long line = unit.getLineMap().getLineNumber(trees.getSourcePositions().getStartPosition(unit, where));
            Check.yes("rule " + number + ", line " + line, kept);
        }

        /** The method that holds the place that is read, null in a field's initialiser. */
        private ExecutableElement method() {
            for (TreePath path = getCurrentPath(); path != null; path = path.getParentPath()) {
                if (path.getLeaf() instanceof MethodTree) {
                    return (ExecutableElement) trees.getElement(path);
                }
            }
            return null;
        }

        private static boolean isOwn(Element e) {
            Element top = e;
            while (top.getEnclosingElement() instanceof TypeElement) {
                top = top.getEnclosingElement();
            }
            return top.getSimpleName().contentEquals("UnikernelHttp");
        }

        private static boolean isFace(Element e) {
            return e.getModifiers().contains(Modifier.PUBLIC);
        }

        @Override
        public Void visitImport(ImportTree node, Void nothing) {
            rule(4, node, IMPORTS.contains(node.getQualifiedIdentifier().toString()) && !node.isStatic());
            return super.visitImport(node, nothing);
        }

        @Override
        public Void visitClass(ClassTree node, Void nothing) {
            classes++;
            Set<Modifier> flags = node.getModifiers().getFlags();
            boolean top = node.getSimpleName().contentEquals("UnikernelHttp");
            rule(1, node, flags.equals(top ? Set.of(Modifier.PUBLIC, Modifier.FINAL)
                    : Set.of(Modifier.PRIVATE, Modifier.STATIC, Modifier.FINAL)));
            int fields = 0;
            for (Tree member : node.getMembers()) {
                boolean field = member instanceof VariableTree;
                if (field && !((VariableTree) member).getModifiers().getFlags().contains(Modifier.STATIC)) {
                    fields++;
                }
                rule(5, member, !(member instanceof BlockTree));
            }
            rule(11, node, fields <= 20);
            return super.visitClass(node, nothing);
        }

        @Override
        public Void visitMethod(MethodTree node, Void nothing) {
            ExecutableElement method = (ExecutableElement) element();
            calls.put(method, new LinkedHashSet<>());
            boolean byItself = method.getEnclosingElement().getSimpleName().contentEquals("UnikernelHttp");
            boolean made = trees.getSourcePositions().getEndPosition(unit, node.getBody()) < 0;
            String name = node.getName().toString();
            if (isFace(method)) {
                rule(1, node, byItself && FACE.contains(name));
            } else if (!made && !name.equals("<init>")) {
                rule(1, node, method.getModifiers().contains(Modifier.PRIVATE) && !FACE.contains(name));
            }
            rule(6, node, isFace(method) || method.getThrownTypes().isEmpty());
            rule(11, node, node.getParameters().size() <= 7);
            rule(11, node, lines(node) <= 60);
            return super.visitMethod(node, nothing);
        }

        private long lines(Tree node) {
            SourcePositions at = trees.getSourcePositions();
            long end = at.getEndPosition(unit, node);
            return end < 0 ? 0 : unit.getLineMap().getLineNumber(end)
                    - unit.getLineMap().getLineNumber(at.getStartPosition(unit, node)) + 1;
        }

        @Override
        public Void visitVariable(VariableTree node, Void nothing) {
            Element variable = element();
            rule(3, node, isAllowed(variable.asType()));
            if (variable.getModifiers().contains(Modifier.STATIC)) {
                rule(5, node, variable.getModifiers().contains(Modifier.FINAL)
                        && CONSTANTS.contains(variable.asType().toString()));
            }
            boolean member = variable.getEnclosingElement() instanceof TypeElement;
            rule(1, node, !member || variable.getModifiers().contains(Modifier.PRIVATE));
            return super.visitVariable(node, nothing);
        }

        private static boolean isAllowed(TypeMirror type) {
            String name = type.toString();
            boolean numbers = NUMBERS.contains(name.replaceFirst("(\\[\\])?(\\[\\])?$", ""));
            boolean own = name.replaceFirst("\\[\\]$", "").matches("UnikernelHttp(\\.\\w+)?");
            return numbers || own || name.equals("java.lang.String");
        }

        @Override
        public Void visitMethodInvocation(MethodInvocationTree node, Void nothing) {
            called(node, (ExecutableElement) element());
            return super.visitMethodInvocation(node, nothing);
        }

        /** Objects are made with the server, so that no run of calls can make too many of them. */
        @Override
        public Void visitNewClass(NewClassTree node, Void nothing) {
            rule(2, node, node.getClassBody() == null);
            if (getCurrentPath().getParentPath().getLeaf() instanceof ThrowTree) {
                return super.visitNewClass(node, nothing);
            }
            ExecutableElement method = method();
            rule(12, node, method == null || method.getSimpleName().contentEquals("<init>"));
            called(node, (ExecutableElement) element());
            return super.visitNewClass(node, nothing);
        }

        @Override
        public Void visitNewArray(NewArrayTree node, Void nothing) {
            ExecutableElement method = method();
            rule(12, node, method == null || method.getSimpleName().contentEquals("<init>"));
            return super.visitNewArray(node, nothing);
        }

        private void called(Tree node, ExecutableElement target) {
            String name = target.getEnclosingElement().getSimpleName() + "." + target.getSimpleName();
            rule(4, node, isOwn(target) || LIBRARY.contains(name));
            ExecutableElement from = method();
            if (from != null) {
                calls.get(from).add(target);
            }
        }

        @Override
        public Void visitThrow(ThrowTree node, Void nothing) {
            NewClassTree thrown = node.getExpression() instanceof NewClassTree n ? n : null;
            boolean plain = thrown != null && THROWN.contains(thrown.getIdentifier().toString())
                    && thrown.getArguments().stream().allMatch(a -> a instanceof LiteralTree);
            rule(6, node, plain);
            ExecutableElement method = method();
            boolean told = plain && method != null && isFace(method) && method.getThrownTypes().stream()
                    .anyMatch(t -> t.toString().endsWith(thrown.getIdentifier().toString()));
            rule(6, node, told);
            return super.visitThrow(node, nothing);
        }

        @Override
        public Void visitBinary(BinaryTree node, Void nothing) {
            TypeMirror type = trees.getTypeMirror(getCurrentPath());
            rule(10, node, type.getKind() != TypeKind.DECLARED);
            if (node.getKind() == Tree.Kind.DIVIDE || node.getKind() == Tree.Kind.REMAINDER) {
                Tree divisor = node.getRightOperand();
                rule(7, node, divisor instanceof LiteralTree || Set.of("scale", "span").contains(divisor.toString()));
            }
            return super.visitBinary(node, nothing);
        }

        @Override
        public Void visitForLoop(ForLoopTree node, Void nothing) {
            rule(9, node, node.getCondition() != null && node.getUpdate().size() == 1);
            return super.visitForLoop(node, nothing);
        }

        /** A counter that goes up or down by one, against a bound. */
        @Override
        public Void visitWhileLoop(WhileLoopTree node, Void nothing) {
            String body = node.getStatement().toString().replaceAll("\\s", "");
            String counter = body.replaceAll("^\\{(\\w+)(\\+\\+|--);\\}$", "$1");
            String bound = body.contains("++") ? " < " : " > ";
            rule(9, node, counter.matches("\\w+") && node.getCondition().toString().startsWith("(" + counter + bound));
            return super.visitWhileLoop(node, nothing);
        }

        @Override
        public Void visitLambdaExpression(LambdaExpressionTree node, Void nothing) {
            rule(2, node, false);
            return super.visitLambdaExpression(node, nothing);
        }

        @Override
        public Void visitMemberReference(MemberReferenceTree node, Void nothing) {
            rule(2, node, false);
            return super.visitMemberReference(node, nothing);
        }

        @Override
        public Void visitTry(TryTree node, Void nothing) {
            rule(6, node, false);
            return super.visitTry(node, nothing);
        }

        @Override
        public Void visitSynchronized(SynchronizedTree node, Void nothing) {
            rule(6, node, false);
            return super.visitSynchronized(node, nothing);
        }

        @Override
        public Void visitAssert(AssertTree node, Void nothing) {
            rule(6, node, false);
            return super.visitAssert(node, nothing);
        }

        private void whole() {
            Check.yes("no package line", unit.getPackage() == null);
            Check.yes("rule 11: twelve classes at most, not " + classes, classes <= 12);
            int face = 0;
            for (ExecutableElement method : calls.keySet()) {
                if (isFace(method)) {
                    face++;
                    int depth = depth(method, 1);
                    Check.yes("rules 8 and 11: calls of " + method + " go " + depth + " deep", depth <= 8);
                }
            }
            Check.same("what is public", face, FACE.size());
        }

        /** How many calls stand open at most; one that calls itself goes deeper than any bound. */
        private int depth(ExecutableElement method, int level) {
            int deepest = level;
            if (level > 20 || !calls.containsKey(method)) {
                return deepest;
            }
            for (ExecutableElement target : calls.get(method)) {
                deepest = Math.max(deepest, depth(target, level + 1));
            }
            return deepest;
        }
    }
}
