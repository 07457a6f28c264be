import com.sun.source.tree.AssertTree;
import com.sun.source.tree.BinaryTree;
import com.sun.source.tree.ClassTree;
import com.sun.source.tree.CompilationUnitTree;
import com.sun.source.tree.IdentifierTree;
import com.sun.source.tree.ImportTree;
import com.sun.source.tree.LambdaExpressionTree;
import com.sun.source.tree.LiteralTree;
import com.sun.source.tree.MemberReferenceTree;
import com.sun.source.tree.MemberSelectTree;
import com.sun.source.tree.MethodTree;
import com.sun.source.tree.ModifiersTree;
import com.sun.source.tree.SynchronizedTree;
import com.sun.source.tree.ThrowTree;
import com.sun.source.tree.Tree;
import com.sun.source.tree.TryTree;
import com.sun.source.tree.VariableTree;
import com.sun.source.util.JavacTask;
import com.sun.source.util.TreeScanner;
import com.sun.source.util.Trees;
import java.io.File;
import java.util.HashSet;
import java.util.List;
import java.util.Set;
import javax.lang.model.element.Modifier;
import javax.tools.JavaCompiler;
import javax.tools.StandardJavaFileManager;
import javax.tools.ToolProvider;

/** Those rules of LANGUAGE.md that the program's tree tells of. */
public final class LanguageTest extends TreeScanner<Void, Void> {
    private static final Set<String> LIBRARY = Set.of("Math.abs", "Math.min", "Math.max", "Integer.MAX_VALUE",
            "Integer.MIN_VALUE", "Long.MIN_VALUE");

    private final CompilationUnitTree unit;
    private final Trees trees;
    private final Set<String> face = new HashSet<>();
    private final Set<String> hidden = new HashSet<>();
    private int classes = 0;

    private LanguageTest(CompilationUnitTree unit, Trees trees) {
        this.unit = unit;
        this.trees = trees;
    }

    public static void main(String[] args) throws Exception {
        JavaCompiler compiler = ToolProvider.getSystemJavaCompiler();
        try (StandardJavaFileManager files = compiler.getStandardFileManager(null, null, null)) {
            JavacTask task = (JavacTask) compiler.getTask(null, files, null, List.of("-proc:none"), null,
                    files.getJavaFileObjects(new File("src/main/java/ChainTables.java")));
            CompilationUnitTree unit = task.parse().iterator().next();
            LanguageTest test = new LanguageTest(unit, Trees.instance(task));
            test.scan(unit, null);
            test.judge();
        }
        Check.end();
    }

    private void judge() {
        Check.due("rule 11: some twelve classes (" + classes + ")", classes <= 12, true);
        Check.due("the face has its methods", face.size(), 49);
        for (String name : hidden) {
            Check.due("rule 1: a private method bears a public one's name: " + name, face.contains(name), false);
        }
    }

    private void refuse(String rule, Tree tree) {
        long line = unit.getLineMap().getLineNumber(trees.getSourcePositions().getStartPosition(unit, tree));
        Check.due("rule " + rule + ", line " + line, 1, 0);
    }

    @Override
    public Void visitClass(ClassTree tree, Void none) {
        classes++;
        int fields = 0;
        for (Tree member : tree.getMembers()) {
            if (member instanceof VariableTree field) {
                Set<Modifier> flags = field.getModifiers().getFlags();
                fields += flags.contains(Modifier.STATIC) ? 0 : 1;
                if (flags.contains(Modifier.STATIC) && !flags.contains(Modifier.FINAL)) {
                    refuse("5: a static field that is not final", field);
                }
            }
            if (member.getKind() == Tree.Kind.BLOCK) {
                refuse("5: a block of a class", member);
            }
        }
        boolean outermost = tree.getSimpleName().contentEquals("ChainTables");
        if (!outermost && !tree.getModifiers().getFlags().contains(Modifier.STATIC)) {
            refuse("2: a class inside that is not static", tree);
        }
        Check.due("rule 11: some twenty fields in " + tree.getSimpleName(), fields <= 20, true);
        return super.visitClass(tree, none);
    }

    @Override
    public Void visitMethod(MethodTree tree, Void none) {
        String name = tree.getName().toString();
        Set<Modifier> flags = tree.getModifiers().getFlags();
        if (!name.equals("<init>")) {
            (flags.contains(Modifier.PUBLIC) ? face : hidden).add(name);
        }
        long from = unit.getLineMap().getLineNumber(trees.getSourcePositions().getStartPosition(unit, tree));
        long to = unit.getLineMap().getLineNumber(trees.getSourcePositions().getEndPosition(unit, tree));
        Check.due("rule 11: " + name + " is short", to - from < 60, true);
        Check.due("rule 11: " + name + " takes at most seven", tree.getParameters().size() <= 7, true);
        if (!tree.getThrows().isEmpty()) {
            refuse("6: throws", tree);
        }
        return super.visitMethod(tree, none);
    }

    @Override
    public Void visitModifiers(ModifiersTree tree, Void none) {
        for (Modifier flag : tree.getFlags()) {
            boolean known = Set.of(Modifier.PUBLIC, Modifier.PRIVATE, Modifier.STATIC, Modifier.FINAL).contains(flag);
            if (!known) {
                refuse("2 or 6: " + flag, tree);
            }
        }
        return super.visitModifiers(tree, none);
    }

    @Override
    public Void visitMemberSelect(MemberSelectTree tree, Void none) {
        if (tree.getExpression() instanceof IdentifierTree left) {
            String name = left.getName().toString();
            boolean library = Set.of("Math", "Integer", "Long", "String", "System", "Arrays").contains(name);
            if (library && !LIBRARY.contains(tree.toString())) {
                refuse("4: " + tree, tree);
            }
        }
        return super.visitMemberSelect(tree, none);
    }

    @Override
    public Void visitLiteral(LiteralTree tree, Void none) {
        if (tree.getValue() instanceof String) {
            refuse("6: a text (none is needed)", tree);
        }
        return super.visitLiteral(tree, none);
    }

    @Override
    public Void visitBinary(BinaryTree tree, Void none) {
        boolean divides = tree.getKind() == Tree.Kind.DIVIDE || tree.getKind() == Tree.Kind.REMAINDER;
        boolean byConstant = tree.getRightOperand() instanceof LiteralTree;
        if (divides && !byConstant) {
            String divisor = tree.getRightOperand().toString();
            // Each is tested, or 1 at least, where it is made; another one is to be looked at anew.
            Set<String> tested = Set.of("divisor", "crosswise", "low", "C_BOUND", "A_CHOICES", "(A_CHOICES * C_BOUND)");
            if (!tested.contains(divisor)) {
                refuse("7: a divisor that nobody looked at: " + divisor, tree);
            }
        }
        return super.visitBinary(tree, none);
    }

    @Override
    public Void visitImport(ImportTree tree, Void none) {
        refuse("4: an import (none is needed)", tree);
        return super.visitImport(tree, none);
    }

    @Override
    public Void visitThrow(ThrowTree tree, Void none) {
        refuse("6: throw", tree);
        return super.visitThrow(tree, none);
    }

    @Override
    public Void visitTry(TryTree tree, Void none) {
        refuse("6: try", tree);
        return super.visitTry(tree, none);
    }

    @Override
    public Void visitSynchronized(SynchronizedTree tree, Void none) {
        refuse("6: synchronized", tree);
        return super.visitSynchronized(tree, none);
    }

    @Override
    public Void visitAssert(AssertTree tree, Void none) {
        refuse("6: assert", tree);
        return super.visitAssert(tree, none);
    }

    @Override
    public Void visitLambdaExpression(LambdaExpressionTree tree, Void none) {
        refuse("2: a lambda", tree);
        return super.visitLambdaExpression(tree, none);
    }

    @Override
    public Void visitMemberReference(MemberReferenceTree tree, Void none) {
        refuse("2: a method reference", tree);
        return super.visitMemberReference(tree, none);
    }
}
