import com.sun.source.tree.AssertTree;
import com.sun.source.tree.BinaryTree;
import com.sun.source.tree.CatchTree;
import com.sun.source.tree.ClassTree;
import com.sun.source.tree.CompilationUnitTree;
import com.sun.source.tree.ImportTree;
import com.sun.source.tree.LambdaExpressionTree;
import com.sun.source.tree.LiteralTree;
import com.sun.source.tree.MemberReferenceTree;
import com.sun.source.tree.MethodInvocationTree;
import com.sun.source.tree.MethodTree;
import com.sun.source.tree.NewClassTree;
import com.sun.source.tree.SynchronizedTree;
import com.sun.source.tree.ThrowTree;
import com.sun.source.tree.Tree;
import com.sun.source.tree.TryTree;
import com.sun.source.tree.VariableTree;
import com.sun.source.util.JavacTask;
import com.sun.source.util.TreePathScanner;
import com.sun.source.util.Trees;
import java.io.IOException;
import java.nio.file.Path;
import java.util.ArrayList;
import java.util.List;
import java.util.Map;
import java.util.Set;
import javax.lang.model.element.Element;
import javax.lang.model.element.Modifier;
import javax.tools.JavaCompiler;
import javax.tools.StandardJavaFileManager;
import javax.tools.ToolProvider;

/** Rules of LANGUAGE.md that can be read off the source and the names that it uses. */
public final class LanguageTest extends TreePathScanner<Void, Void> {
    private static final Set<String> IMPORTS =
            Set.of("java.util.ArrayList", "java.util.List", "java.util.Arrays", "java.util.Iterator");
    private static final Set<String> EXCEPTIONS = Set.of("IllegalStateException", "IllegalArgumentException",
            "IndexOutOfBoundsException");
    private static final String LIST_CALLS = "add|get|set|remove|size|isEmpty|clear";
    private static final String NUMBER_CALLS = "compare|max|min|abs|bitCount|floorDiv|floorMod|signum";
    /** The part of rule 4's library that the program may come to need, as patterns of each type's names. */
    private static final Map<String, String> LIBRARY = Map.of(
            "java.lang.Object", "<init>",
            "java.lang.String", "length|charAt|isEmpty|equals|indexOf|substring|toCharArray",
            "java.lang.StringBuilder", "<init>|append|charAt|setCharAt|setLength|deleteCharAt|reverse|length|toString",
            "java.lang.Integer", NUMBER_CALLS,
            "java.lang.Long", NUMBER_CALLS,
            "java.lang.Math", NUMBER_CALLS,
            "java.lang.System", "arraycopy",
            "java.util.ArrayList", "<init>|" + LIST_CALLS,
            "java.util.List", "of|" + LIST_CALLS,
            "java.util.Arrays", "copyOf|copyOfRange|fill");
    private static final Set<String> STATIC_TYPES =
            Set.of("int", "long", "boolean", "char", "String", "int[]", "long[]", "char[]", "byte[]");

    private final List<String> faults = new ArrayList<>();
    private final CompilationUnitTree unit;
    private final Trees trees;
    private int classes;
    private boolean inConstructor;

    private LanguageTest(CompilationUnitTree unit, Trees trees) {
        this.unit = unit;
        this.trees = trees;
    }

    public static void main(String[] args) throws IOException {
        JavaCompiler compiler = ToolProvider.getSystemJavaCompiler();
        try (StandardJavaFileManager files = compiler.getStandardFileManager(null, null, null)) {
            var sources = files.getJavaFileObjects(Path.of("src/main/java/DiceForge.java"));
            JavacTask task = (JavacTask) compiler.getTask(null, files, null, null, null, sources);
            Iterable<? extends CompilationUnitTree> units = task.parse();
            task.analyze();
            for (CompilationUnitTree unit : units) {
                LanguageTest test = new LanguageTest(unit, Trees.instance(task));
                test.scan(unit, null);
                Checks.due("faults against LANGUAGE.md", List.of(), () -> test.faults);
                Checks.due("a package", null, unit::getPackageName);
                Checks.due("too many classes", false, () -> test.classes > 12);
            }
        }
        Checks.finish();
    }

    private void fault(Tree tree, String what) {
        faults.add("line " + lineOf(trees.getSourcePositions().getStartPosition(unit, tree)) + ": " + what);
    }

    private long lineOf(long position) {
        return unit.getLineMap().getLineNumber(position);
    }

    @Override
    public Void visitImport(ImportTree tree, Void none) {
        if (tree.isStatic() || !IMPORTS.contains(tree.getQualifiedIdentifier().toString())) {
            fault(tree, "rule 4, " + tree);
        }
        return null;
    }

    @Override
    public Void visitClass(ClassTree tree, Void none) {
        classes++;
        int fields = 0;
        for (Tree member : tree.getMembers()) {
            if (member instanceof VariableTree) {
                fields += fieldOf((VariableTree) member);
            }
            if (member.getKind() == Tree.Kind.BLOCK) {
                fault(member, "rule 5, an initialiser block");
            }
        }
        if (fields > 20) {
            fault(tree, "rule 11, " + fields + " fields");
        }
        return super.visitClass(tree, none);
    }

    private int fieldOf(VariableTree field) {
        Set<Modifier> modifiers = field.getModifiers().getFlags();
        if (!modifiers.contains(Modifier.STATIC)) {
            return 1;
        }
        if (!modifiers.contains(Modifier.FINAL)) {
            fault(field, "rule 5, a static field that is not final");
        }
        if (!STATIC_TYPES.contains(field.getType().toString())) {
            fault(field, "rule 5, a static field of " + field.getType());
        }
        return 0;
    }

    @Override
    public Void visitMethod(MethodTree tree, Void none) {
        long first = lineOf(trees.getSourcePositions().getStartPosition(unit, tree));
        long last = lineOf(trees.getSourcePositions().getEndPosition(unit, tree));
        if (last - first >= 60 || tree.getParameters().size() > 7) {
            fault(tree, "rule 11, a method too long");
        }
        if (tree.getModifiers().getFlags().contains(Modifier.SYNCHRONIZED)) {
            fault(tree, "rule 6, synchronized");
        }
        inConstructor = tree.getReturnType() == null;
        super.visitMethod(tree, none);
        inConstructor = false;
        return null;
    }

    @Override
    public Void visitThrow(ThrowTree tree, Void none) {
        if (inConstructor || !(tree.getExpression() instanceof NewClassTree)) {
            fault(tree, "rule 6, a throw");
        } else {
            NewClassTree made = (NewClassTree) tree.getExpression();
            boolean text = made.getArguments().isEmpty() || made.getArguments().get(0) instanceof LiteralTree;
            if (!EXCEPTIONS.contains(made.getIdentifier().toString()) || !text) {
                fault(tree, "rule 6, " + tree);
            }
        }
        return super.visitThrow(tree, none);
    }

    @Override
    public Void visitMethodInvocation(MethodInvocationTree tree, Void none) {
        requireLibrary(tree);
        return super.visitMethodInvocation(tree, none);
    }

    /** Exceptions are made behind throw alone; visitThrow has looked at those. */
    @Override
    public Void visitNewClass(NewClassTree tree, Void none) {
        boolean thrown = getCurrentPath().getParentPath().getLeaf() instanceof ThrowTree;
        if (!thrown) {
            requireLibrary(tree);
        }
        return super.visitNewClass(tree, none);
    }

    private void requireLibrary(Tree tree) {
        Element called = trees.getElement(getCurrentPath());
        String owner = called.getEnclosingElement().toString();
        boolean own = owner.matches("DiceForge(\\..*)?");
        boolean listed = called.getSimpleName().toString().matches(LIBRARY.getOrDefault(owner, ""));
        if (!own && (!listed || called.asType().toString().matches(".*(double|float).*"))) {
            fault(tree, "rule 4, " + tree);
        }
    }

    @Override
    public Void visitBinary(BinaryTree tree, Void none) {
        for (Tree side : List.of(tree.getLeftOperand(), tree.getRightOperand())) {
            if (tree.getKind() == Tree.Kind.PLUS && side.getKind() == Tree.Kind.STRING_LITERAL) {
                fault(tree, "rule 10, texts joined by +");
            }
        }
        return super.visitBinary(tree, none);
    }

    @Override
    public Void visitLambdaExpression(LambdaExpressionTree tree, Void none) {
        fault(tree, "rule 2, a lambda");
        return null;
    }

    @Override
    public Void visitMemberReference(MemberReferenceTree tree, Void none) {
        fault(tree, "rule 2, a method reference");
        return null;
    }

    @Override
    public Void visitTry(TryTree tree, Void none) {
        if (tree.getFinallyBlock() != null || !tree.getResources().isEmpty()) {
            fault(tree, "rule 6, finally or resources");
        }
        return super.visitTry(tree, none);
    }

    /** The program answers no call by catching; the document names nothing that needs it. */
    @Override
    public Void visitCatch(CatchTree tree, Void none) {
        fault(tree, "a catch");
        return null;
    }

    @Override
    public Void visitSynchronized(SynchronizedTree tree, Void none) {
        fault(tree, "rule 6, synchronized");
        return null;
    }

    @Override
    public Void visitAssert(AssertTree tree, Void none) {
        fault(tree, "rule 6, assert");
        return null;
    }
}
