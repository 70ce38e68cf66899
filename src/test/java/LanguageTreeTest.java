import com.sun.source.tree.BinaryTree;
import com.sun.source.tree.CompilationUnitTree;
import com.sun.source.tree.LiteralTree;
import com.sun.source.tree.MethodInvocationTree;
import com.sun.source.tree.MethodTree;
import com.sun.source.tree.NewArrayTree;
import com.sun.source.tree.NewClassTree;
import com.sun.source.tree.Tree;
import com.sun.source.tree.VariableTree;
import com.sun.source.util.JavacTask;
import com.sun.source.util.TreePath;
import com.sun.source.util.TreePathScanner;
import com.sun.source.util.Trees;
import java.io.IOException;
import java.nio.file.Path;
import java.util.HashMap;
import java.util.LinkedHashMap;
import java.util.LinkedHashSet;
import java.util.List;
import java.util.Map;
import java.util.Set;
import javax.lang.model.element.Element;
import javax.lang.model.element.VariableElement;
import javax.tools.JavaCompiler;
import javax.tools.StandardJavaFileManager;
import javax.tools.ToolProvider;

/**
 * Those rules of ../shared/LANGUAGE.md that are seen in the tree that javac makes of the class: which library calls it
 * uses (4), no recursion and calls at most eight deep (8, 11), which types its variables have (3), which divisors are
 * no constant (7), and that no call makes an object or an array (12).
 */
public final class LanguageTreeTest {
    private static final String CLASS = "ReleaseTerms";
    private static final Path SOURCE = Path.of("src/main/java/ReleaseTerms.java");
    private static final int DEEPEST = 8;

    private static final Set<String> LIBRARY = Set.of("java.lang.Integer.bitCount(int)", "java.lang.Math.min(int,int)",
            "java.lang.String.charAt(int)", "java.lang.String.length()", "java.lang.Object.Object()",
            "java.lang.System.arraycopy(java.lang.Object,int,java.lang.Object,int,int)");
    private static final Set<String> TYPES = Set.of("int", "long", "boolean", "int[]", "long[]", "java.lang.String");
    private static final Set<Tree.Kind> BANNED = Set.of(Tree.Kind.THROW, Tree.Kind.TRY, Tree.Kind.CATCH,
            Tree.Kind.SYNCHRONIZED, Tree.Kind.ASSERT, Tree.Kind.LAMBDA_EXPRESSION, Tree.Kind.MEMBER_REFERENCE,
            Tree.Kind.DO_WHILE_LOOP, Tree.Kind.IMPORT, Tree.Kind.PACKAGE);
    /** Divisors that are no constant; the lines around each of them keep it from being 0. */
    private static final Set<String> GUARDED_DIVISORS = Set.of("risk: shared", "riskAbove: (cries + 1)",
            "commonDivisor: b");

    private final Trees trees;
    private final Map<Element, Set<Element>> calls = new LinkedHashMap<>();
    private final Map<Element, Integer> depths = new HashMap<>();

    private LanguageTreeTest(Trees trees) {
        this.trees = trees;
    }

    public static void main(String[] args) throws IOException {
        JavaCompiler compiler = ToolProvider.getSystemJavaCompiler();
        try (StandardJavaFileManager files = compiler.getStandardFileManager(null, null, null)) {
            JavacTask task = (JavacTask) compiler.getTask(null, files, null, List.of("-proc:none"), null,
                    files.getJavaFileObjects(SOURCE));
            Iterable<? extends CompilationUnitTree> units = task.parse();
            task.analyze();
            LanguageTreeTest test = new LanguageTreeTest(Trees.instance(task));
            for (CompilationUnitTree unit : units) {
                test.new Walk().scan(unit, null);
            }
            test.depths();
        }
        Due.end("LanguageTreeTest");
    }

    private static void holds(String what, boolean is) {
        Due.due(what, is ? 1 : 0, 1);
    }

    private void depths() {
        holds("methods were found", calls.size() > 100);
        for (Element method : calls.keySet()) {
            int depth = depth(method, new LinkedHashSet<>());
            holds(method + " goes at most eight calls deep, and goes " + depth, depth <= DEEPEST);
        }
    }

    private int depth(Element method, Set<Element> open) {
        if (depths.containsKey(method)) {
            return depths.get(method);
        }
        holds(method + " does not call itself", open.add(method));
        if (open.size() > 100) {
            return open.size();
        }
        int deepest = 0;
        for (Element called : calls.getOrDefault(method, Set.of())) {
            deepest = Math.max(deepest, depth(called, new LinkedHashSet<>(open)));
        }
        depths.put(method, deepest + 1);
        return deepest + 1;
    }

    /** Goes through the tree with the method that it is in, or null between methods. */
    private final class Walk extends TreePathScanner<Void, Element> {
        @Override
        public Void scan(Tree tree, Element in) {
            holds("no " + (tree == null ? "" : tree.getKind()), tree == null || !BANNED.contains(tree.getKind()));
            return super.scan(tree, in);
        }

        @Override
        public Void visitMethod(MethodTree tree, Element in) {
            Element method = trees.getElement(getCurrentPath());
            calls.putIfAbsent(method, new LinkedHashSet<>());
            return super.visitMethod(tree, method);
        }

        @Override
        public Void visitVariable(VariableTree tree, Element in) {
            String type = trees.getTypeMirror(getCurrentPath()).toString();
            holds(tree.getName() + " has a type of rule 3: " + type, TYPES.contains(type)
                    || type.startsWith(CLASS + "."));
            return super.visitVariable(tree, in);
        }

        @Override
        public Void visitMethodInvocation(MethodInvocationTree tree, Element in) {
            Element called = trees.getElement(getCurrentPath());
            String owner = called.getEnclosingElement().toString();
            if (owner.equals(CLASS) || owner.startsWith(CLASS + ".")) {
                calls.get(in).add(called);
            } else {
                holds(owner + "." + called + " is a library call of rule 4", LIBRARY.contains(owner + "." + called));
            }
            return super.visitMethodInvocation(tree, in);
        }

        @Override
        public Void visitNewClass(NewClassTree tree, Element in) {
            holds(tree + " is made with its owner, not by a call", in == null);
            return super.visitNewClass(tree, in);
        }

        @Override
        public Void visitNewArray(NewArrayTree tree, Element in) {
            holds(tree + " is made with its owner, not by a call", in == null);
            return super.visitNewArray(tree, in);
        }

        @Override
        public Void visitBinary(BinaryTree tree, Element in) {
            if (tree.getKind() == Tree.Kind.DIVIDE || tree.getKind() == Tree.Kind.REMAINDER) {
                Tree divisor = tree.getRightOperand();
                String name = (in == null ? "" : in.getSimpleName() + ": ") + divisor;
                holds(name + " is a divisor that is looked at", isConstant(divisor) || GUARDED_DIVISORS.contains(name));
            }
            return super.visitBinary(tree, in);
        }

        private boolean isConstant(Tree tree) {
            if (tree instanceof LiteralTree literal) {
                return !"0".equals(literal.toString());
            }
            Element e = trees.getElement(new TreePath(getCurrentPath(), tree));
            return e instanceof VariableElement v && v.getConstantValue() instanceof Integer i && i != 0;
        }
    }
}
