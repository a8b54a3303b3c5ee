import com.sun.source.tree.ClassTree;
import com.sun.source.tree.CompilationUnitTree;
import com.sun.source.tree.MethodInvocationTree;
import com.sun.source.tree.MethodTree;
import com.sun.source.tree.NewClassTree;
import com.sun.source.tree.VariableTree;
import com.sun.source.util.JavacTask;
import com.sun.source.util.TreePath;
import com.sun.source.util.TreePathScanner;
import com.sun.source.util.Trees;
import java.io.File;
import java.util.ArrayList;
import java.util.List;
import java.util.Map;
import java.util.TreeMap;
import java.util.TreeSet;
import javax.lang.model.element.Element;
import javax.lang.model.element.ElementKind;
import javax.lang.model.element.ExecutableElement;
import javax.lang.model.element.Modifier;
import javax.tools.JavaCompiler;
import javax.tools.StandardJavaFileManager;
import javax.tools.ToolProvider;

/**
 * Who calls whom in the class, as the compiler reads it: nothing calls itself, calls go at most
 * eight deep (the public one and the library's counted), and the library is only what it may be.
 */
public final class DepthTest {
    private static final Due due = new Due("DepthTest");
    private static final int DEEPEST = 8;
    private static final String LIBRARY = "Math.max(int,int) Math.min(int,int) String.charAt(int) "
            + "String.indexOf(int) System.arraycopy(java.lang.Object,int,java.lang.Object,int,int)";

    private final Map<String, TreeSet<String>> callees = new TreeMap<>();
    private final Map<String, Integer> depths = new TreeMap<>();
    private final TreeSet<String> faces = new TreeSet<>();
    private final TreeSet<String> library = new TreeSet<>();

    public static void main(String[] args) throws Exception {
        DepthTest test = new DepthTest();
        test.readCalls();
        due.is("calls of the face", test.faces.size(), 24);
        for (String face : test.faces) {
            int depth = test.depthOf(face, new ArrayList<>());
            due.is(face + " goes " + depth + " deep: at most " + DEEPEST, depth <= DEEPEST ? 1 : 0, 1);
        }
        due.is("the library", String.join(" ", test.library), LIBRARY);
        due.finish();
    }

    private void readCalls() throws Exception {
        JavaCompiler compiler = ToolProvider.getSystemJavaCompiler();
        try (StandardJavaFileManager files = compiler.getStandardFileManager(null, null, null)) {
            JavacTask task = (JavacTask) compiler.getTask(null, files, null, null, null,
                    files.getJavaFileObjects(new File("src/main/java/LambdaShelf.java")));
            Iterable<? extends CompilationUnitTree> units = task.parse();
            task.analyze();
            for (CompilationUnitTree unit : units) {
                new Calls(Trees.instance(task)).scan(unit, null);
            }
        }
    }

    /** Counted in methods that stand open at once; a way back to one that is open is a fault. */
    private int depthOf(String method, List<String> open) {
        due.is(method + " calls itself by " + open, open.contains(method) ? 1 : 0, 0);
        if (open.contains(method)) {
            return 0;
        }
        Integer known = depths.get(method);
        if (known != null) {
            return known;
        }
        open.add(method);
        int deepest = 0;
        for (String callee : callees.getOrDefault(method, new TreeSet<>())) {
            deepest = Math.max(deepest, depthOf(callee, open));
        }
        open.remove(open.size() - 1);
        depths.put(method, deepest + 1);
        return deepest + 1;
    }

    private final class Calls extends TreePathScanner<Void, String> {
        private final Trees trees;

        Calls(Trees trees) {
            this.trees = trees;
        }

        @Override
        public Void visitMethod(MethodTree tree, String caller) {
            Element method = trees.getElement(getCurrentPath());
            String name = nameOf(method);
            boolean isFace = method.getModifiers().contains(Modifier.PUBLIC);
            if (isFace) {
                faces.add(name);
            }
            return super.visitMethod(tree, name);
        }

        /** What a field begins with is made in the constructor. */
        @Override
        public Void visitVariable(VariableTree tree, String caller) {
            Element element = trees.getElement(getCurrentPath());
            boolean isField = element != null && element.getKind() == ElementKind.FIELD;
            return super.visitVariable(tree, isField ? constructorOf(element.getEnclosingElement()) : caller);
        }

        @Override
        public Void visitMethodInvocation(MethodInvocationTree tree, String caller) {
            note(caller, trees.getElement(getCurrentPath()));
            return super.visitMethodInvocation(tree, caller);
        }

        @Override
        public Void visitNewClass(NewClassTree tree, String caller) {
            note(caller, trees.getElement(getCurrentPath()));
            return super.visitNewClass(tree, caller);
        }

        @Override
        public Void visitClass(ClassTree tree, String caller) {
            return super.visitClass(tree, null);
        }

        private String constructorOf(Element owner) {
            for (Element member : owner.getEnclosedElements()) {
                if (member.getKind() == ElementKind.CONSTRUCTOR) {
                    return nameOf(member);
                }
            }
            return owner + ".<init>";
        }

        private void note(String caller, Element callee) {
            if (caller == null || callee == null) {
                due.is("a call that is not understood in " + caller, 1, 0);
                return;
            }
            boolean isSuper = callee.getEnclosingElement().toString().equals("java.lang.Object");
            if (!isSuper) {
                callees.computeIfAbsent(caller, key -> new TreeSet<>()).add(nameOf(callee));
            }
            boolean isLibrary = callee.getEnclosingElement().toString().startsWith("java.");
            if (isLibrary && !isSuper) {
                library.add(nameOf(callee));
            }
        }

        private String nameOf(Element method) {
            ExecutableElement callable = (ExecutableElement) method;
            return callable.getEnclosingElement().getSimpleName() + "." + callable;
        }
    }
}
