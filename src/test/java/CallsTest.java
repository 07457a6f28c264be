import com.sun.source.tree.CompilationUnitTree;
import com.sun.source.tree.MethodInvocationTree;
import com.sun.source.tree.MethodTree;
import com.sun.source.tree.NewClassTree;
import com.sun.source.tree.VariableTree;
import com.sun.source.util.JavacTask;
import com.sun.source.util.TreePath;
import com.sun.source.util.TreePathScanner;
import com.sun.source.util.Trees;
import java.io.File;
import java.util.HashMap;
import java.util.LinkedHashMap;
import java.util.LinkedHashSet;
import java.util.List;
import java.util.Map;
import java.util.Set;
import javax.lang.model.element.Element;
import javax.lang.model.element.ExecutableElement;
import javax.lang.model.element.Modifier;
import javax.lang.model.type.ArrayType;
import javax.lang.model.type.TypeKind;
import javax.lang.model.type.TypeMirror;
import javax.tools.JavaCompiler;
import javax.tools.StandardJavaFileManager;
import javax.tools.ToolProvider;

/** The rules of LANGUAGE.md that ask who calls whom (8, 11) and what types there are (3, 5). */
public final class CallsTest extends TreePathScanner<Void, Void> {
    private static final int MOST_DEEP = 8;
    // The only one that calls itself; its depth, the row, is an argument, 4 at most.
    private static final Set<String> RECURSIVE = Set.of("minor");

    private final Trees trees;
    private final Map<ExecutableElement, Set<ExecutableElement>> calls = new LinkedHashMap<>();
    private final Map<ExecutableElement, Integer> depths = new HashMap<>();
    private ExecutableElement inside = null;

    private CallsTest(Trees trees) {
        this.trees = trees;
    }

    public static void main(String[] args) throws Exception {
        JavaCompiler compiler = ToolProvider.getSystemJavaCompiler();
        try (StandardJavaFileManager files = compiler.getStandardFileManager(null, null, null)) {
            JavacTask task = (JavacTask) compiler.getTask(null, files, null, List.of("-proc:none"), null,
                    files.getJavaFileObjects(new File("src/main/java/ChainTables.java")));
            CompilationUnitTree unit = task.parse().iterator().next();
            task.analyze();
            CallsTest test = new CallsTest(Trees.instance(task));
            test.scan(unit, null);
            test.judge();
        }
        Check.end();
    }

    private void judge() {
        for (ExecutableElement method : calls.keySet()) {
            int depth = depth(method, new LinkedHashSet<>());
            Check.due("rule 11: " + method + " goes " + depth + " deep", depth <= MOST_DEEP, true);
        }
        Check.due("there are calls", calls.size() > 49, true);
    }

    /** How deep a method goes, itself and the library's calls among it. */
    private int depth(ExecutableElement method, Set<ExecutableElement> open) {
        if (!calls.containsKey(method)) {
            return 1;
        }
        Integer known = depths.get(method);
        if (known != null) {
            return known;
        }
        open.add(method);
        int deepest = 0;
        for (ExecutableElement called : calls.get(method)) {
            if (open.contains(called)) {
                boolean isKnown = called.equals(method) && RECURSIVE.contains(method.getSimpleName().toString());
                Set<Modifier> flags = method.getModifiers();
                boolean closed = flags.contains(Modifier.PRIVATE) && flags.contains(Modifier.STATIC);
                Check.due("rule 8: " + method + " calls " + called + " anew", isKnown && closed, true);
            } else {
                deepest = Math.max(deepest, depth(called, open));
            }
        }
        open.remove(method);
        depths.put(method, deepest + 1);
        return deepest + 1;
    }

    @Override
    public Void visitMethod(MethodTree tree, Void none) {
        inside = (ExecutableElement) trees.getElement(getCurrentPath());
        calls.computeIfAbsent(inside, key -> new LinkedHashSet<>());
        Void answer = super.visitMethod(tree, none);
        inside = null;
        return answer;
    }

    @Override
    public Void visitMethodInvocation(MethodInvocationTree tree, Void none) {
        boolean toItsParent = tree.getMethodSelect().toString().equals("super");
        if (!toItsParent) {
            add(trees.getElement(new TreePath(getCurrentPath(), tree.getMethodSelect())));
        }
        return super.visitMethodInvocation(tree, none);
    }

    @Override
    public Void visitNewClass(NewClassTree tree, Void none) {
        add(trees.getElement(getCurrentPath()));
        return super.visitNewClass(tree, none);
    }

    private void add(Element called) {
        if (inside != null && called instanceof ExecutableElement method) {
            calls.get(inside).add(method);
        }
    }

    @Override
    public Void visitVariable(VariableTree tree, Void none) {
        Element variable = trees.getElement(getCurrentPath());
        Set<Modifier> flags = variable.getModifiers();
        Check.due("rule 3: the type of " + tree, isAllowed(variable.asType(), 2), true);
        if (flags.contains(Modifier.STATIC)) {
            boolean constant = variable.asType().getKind().isPrimitive() && flags.contains(Modifier.FINAL);
            Check.due("rule 5: " + tree, constant, true);
        }
        return super.visitVariable(tree, none);
    }

    /** Numbers and booleans, rows of them (of numbers also rows of rows), classes of its own and rows of these. */
    private static boolean isAllowed(TypeMirror type, int dimensions) {
        if (type.getKind().isPrimitive()) {
            return type.getKind() != TypeKind.DOUBLE && type.getKind() != TypeKind.FLOAT;
        }
        if (type instanceof ArrayType row) {
            boolean ofRows = row.getComponentType() instanceof ArrayType;
            boolean ofOwn = row.toString().startsWith("ChainTables");
            return dimensions > 0 && !(ofRows && ofOwn) && isAllowed(row.getComponentType(), dimensions - 1);
        }
        return type.toString().startsWith("ChainTables");
    }
}
