import com.sun.source.tree.BinaryTree;
import com.sun.source.tree.ClassTree;
import com.sun.source.tree.CompilationUnitTree;
import com.sun.source.tree.CompoundAssignmentTree;
import com.sun.source.tree.MethodInvocationTree;
import com.sun.source.tree.MethodTree;
import com.sun.source.tree.NewArrayTree;
import com.sun.source.tree.NewClassTree;
import com.sun.source.tree.Tree;
import com.sun.source.util.JavacTask;
import com.sun.source.util.TreePath;
import com.sun.source.util.TreePathScanner;
import com.sun.source.util.Trees;
import java.io.File;
import java.io.IOException;
import java.util.List;
import java.util.Map;
import java.util.Set;
import java.util.TreeMap;
import java.util.TreeSet;
import javax.lang.model.element.Element;
import javax.tools.JavaCompiler;
import javax.tools.StandardJavaFileManager;
import javax.tools.ToolProvider;

/** What the class calls, how deep, and what it makes, as the compiler sees it: LANGUAGE.md 2, 3, 4, 8, 10, 11, 12. */
public final class CallsTest {
    private static final String SOURCE = "src/main/java/NetLaw.java";
    private static final int MOST_DEEP = 8;
    private static final Set<String> LIBRARY = Set.of(
            "java.lang.Integer.bitCount", "java.lang.Math.max", "java.lang.Math.min", "java.lang.String.length",
            "java.lang.String.charAt", "java.lang.System.arraycopy", "java.util.Arrays.fill", "java.lang.Object.<init>");

    private static final Map<String, Set<String>> CALLED = new TreeMap<>();

    public static void main(String[] args) throws IOException {
        look();
        hold("the face was found", CALLED.containsKey("NetLaw.least(int,int,int)"));
        for (String method : CALLED.keySet()) {
            int depth = depth(method, 1);
            hold(method + " calls at most " + MOST_DEEP + " deep and never itself", depth <= MOST_DEEP);
        }
        Due.end("CallsTest");
    }

    private static void look() throws IOException {
        JavaCompiler compiler = ToolProvider.getSystemJavaCompiler();
        try (StandardJavaFileManager files = compiler.getStandardFileManager(null, null, null)) {
            JavacTask task = (JavacTask) compiler.getTask(null, files, null, List.of("-proc:none"), null,
                    files.getJavaFileObjects(new File(SOURCE)));
            Iterable<? extends CompilationUnitTree> units = task.parse();
            task.analyze();
            new Scanner(Trees.instance(task)).scan(units, null);
        }
    }

    private static void hold(String rule, boolean holds) {
        Due.due(rule, holds ? 1 : 0, 1);
    }

    /** How many calls stand open at once from here on; a ring of calls goes beyond every bound. */
    private static int depth(String method, int level) {
        if (level > MOST_DEEP) {
            return level;
        }
        int deepest = level;
        for (String next : CALLED.getOrDefault(method, Set.of())) {
            deepest = Math.max(deepest, depth(next, level + 1));
        }
        return deepest;
    }

    private static final class Scanner extends TreePathScanner<Void, Void> {
        private final Trees trees;
        private String method = "NetLaw fields";
        private boolean constructs = true;

        Scanner(Trees trees) {
            this.trees = trees;
        }

        @Override
        public Void visitClass(ClassTree tree, Void v) {
            hold(tree.getSimpleName() + " is a class with a name", !tree.getSimpleName().isEmpty());
            return super.visitClass(tree, v);
        }

        @Override
        public Void visitMethod(MethodTree tree, Void v) {
            String outer = method;
            boolean outerConstructs = constructs;
            Element e = trees.getElement(getCurrentPath());
            method = e.getEnclosingElement() + "." + e;
            constructs = tree.getReturnType() == null;
            CALLED.computeIfAbsent(method, m -> new TreeSet<>());
            super.visitMethod(tree, v);
            method = outer;
            constructs = outerConstructs;
            return null;
        }

        @Override
        public Void visitMethodInvocation(MethodInvocationTree tree, Void v) {
            Element e = trees.getElement(getCurrentPath());
            String owner = e.getEnclosingElement().toString();
            if (!owner.startsWith("NetLaw")) {
                String name = owner + "." + e.getSimpleName();
                hold(method + " calls " + name + ", which the rules list", LIBRARY.contains(name));
            }
            CALLED.computeIfAbsent(method, m -> new TreeSet<>()).add(owner + "." + e);
            return super.visitMethodInvocation(tree, v);
        }

        @Override
        public Void visitNewClass(NewClassTree tree, Void v) {
            String made = typeOf(getCurrentPath());
            hold(method + " makes " + made + ", a class of its own", made.startsWith("NetLaw."));
            hold(method + " makes " + made + " with the object", constructs);
            return super.visitNewClass(tree, v);
        }

        @Override
        public Void visitNewArray(NewArrayTree tree, Void v) {
            String made = typeOf(getCurrentPath());
            hold(method + " makes " + made + " of one dimension", made.indexOf('[') == made.lastIndexOf('['));
            hold(method + " makes " + made + " with the object", constructs);
            return super.visitNewArray(tree, v);
        }

        @Override
        public Void visitBinary(BinaryTree tree, Void v) {
            if (tree.getKind() == Tree.Kind.PLUS) {
                hold(method + " joins no texts by +", !typeOf(getCurrentPath()).equals("java.lang.String"));
            }
            return super.visitBinary(tree, v);
        }

        @Override
        public Void visitCompoundAssignment(CompoundAssignmentTree tree, Void v) {
            hold(method + " joins no texts by +=", !typeOf(getCurrentPath()).equals("java.lang.String"));
            return super.visitCompoundAssignment(tree, v);
        }

        private String typeOf(TreePath path) {
            return String.valueOf(trees.getTypeMirror(path));
        }
    }
}
