import com.sun.source.tree.AssertTree;
import com.sun.source.tree.ClassTree;
import com.sun.source.tree.CompilationUnitTree;
import com.sun.source.tree.DoWhileLoopTree;
import com.sun.source.tree.ForLoopTree;
import com.sun.source.tree.ImportTree;
import com.sun.source.tree.LambdaExpressionTree;
import com.sun.source.tree.MemberReferenceTree;
import com.sun.source.tree.MemberSelectTree;
import com.sun.source.tree.MethodInvocationTree;
import com.sun.source.tree.MethodTree;
import com.sun.source.tree.NewArrayTree;
import com.sun.source.tree.NewClassTree;
import com.sun.source.tree.SynchronizedTree;
import com.sun.source.tree.ThrowTree;
import com.sun.source.tree.Tree;
import com.sun.source.tree.TryTree;
import com.sun.source.tree.VariableTree;
import com.sun.source.tree.WhileLoopTree;
import com.sun.source.util.JavacTask;
import com.sun.source.util.SourcePositions;
import com.sun.source.util.TreeScanner;
import com.sun.source.util.Trees;
import java.io.File;
import java.io.IOException;
import java.util.Arrays;
import java.util.List;
import java.util.Set;
import javax.lang.model.element.Modifier;
import javax.tools.JavaCompiler;
import javax.tools.StandardJavaFileManager;
import javax.tools.ToolProvider;

/**
 * The source, by the rules of LANGUAGE.md that can be read off it. It is stricter than they are
 * where ProofBench needs less: for loops alone, no try, no class inside, nothing made by a call.
 */
public final class LanguageTest extends TreeScanner<Void, Void> {
    private static final Check CHECK = new Check();
    private static final File FOLDER = new File("src/main/java");
    private static final String TEXT = "\"[^\"]*\"";
    private static final String THROWN =
        "throw new (IllegalArgumentException|IllegalStateException)\\(" + TEXT + "\\);?";
    private static final Set<String> FUNCTIONS_OF = Set.of("Integer", "Long", "Math");
    private static final Set<String> CONSTANT_TYPES = Set.of("int", "long", "boolean", "char", "String");

    private final CompilationUnitTree unit;
    private final SourcePositions positions;
    private boolean inConstructor = false;
    private boolean inThrow = false;
    private int fields = 0;
    private int methods = 0;

    private LanguageTest(CompilationUnitTree unit, SourcePositions positions) {
        this.unit = unit;
        this.positions = positions;
    }

    public static void main(String[] args) throws IOException {
        CHECK.same("files of the program", Arrays.toString(FOLDER.list()), "[ProofBench.java]");
        JavaCompiler compiler = ToolProvider.getSystemJavaCompiler();
        try (StandardJavaFileManager files = compiler.getStandardFileManager(null, null, null)) {
            JavacTask task = (JavacTask) compiler.getTask(null, files, null, List.of(), null,
                files.getJavaFileObjects(new File(FOLDER, "ProofBench.java")));
            for (CompilationUnitTree unit : task.parse()) {
                new LanguageTest(unit, Trees.instance(task).getSourcePositions()).look();
            }
        }
        CHECK.end();
    }

    private void look() {
        CHECK.due("no package line", unit.getPackageName() == null, true);
        CHECK.due("one class in the file", unit.getTypeDecls().size(), 1);
        scan(unit, null);
        CHECK.due("rule 11: at most twenty fields", fields <= 20, true);
        CHECK.due("methods were seen", methods > 12, true);
    }

    private long line(long position) {
        return unit.getLineMap().getLineNumber(position);
    }

    private String where(Tree tree) {
        return "line " + line(positions.getStartPosition(unit, tree)) + ": ";
    }

    private void never(Tree tree, String what) {
        CHECK.due(where(tree) + what, true, false);
    }

    @Override
    public Void visitClass(ClassTree tree, Void none) {
        for (Tree member : tree.getMembers()) {
            if (member instanceof VariableTree) {
                field((VariableTree) member);
            } else if (!(member instanceof MethodTree)) {
                never(member, "rules 2 and 5: a class inside, or an initialiser block");
            }
        }
        return super.visitClass(tree, none);
    }

    private void field(VariableTree tree) {
        Set<Modifier> modifiers = tree.getModifiers().getFlags();
        if (modifiers.contains(Modifier.STATIC)) {
            CHECK.due(where(tree) + "rule 5: static fields are final", modifiers.contains(Modifier.FINAL), true);
            CHECK.due(where(tree) + "rule 5: of these types", CONSTANT_TYPES.contains(tree.getType().toString()), true);
        } else {
            fields++;
        }
    }

    @Override
    public Void visitMethod(MethodTree tree, Void none) {
        methods++;
        long lines = line(positions.getEndPosition(unit, tree)) - line(positions.getStartPosition(unit, tree)) + 1;
        CHECK.due(where(tree) + "rule 11: at most sixty lines", lines <= 60, true);
        CHECK.due(where(tree) + "rule 11: at most seven parameters", tree.getParameters().size() <= 7, true);
        inConstructor = tree.getReturnType() == null;
        super.visitMethod(tree, none);
        inConstructor = false;
        return null;
    }

    @Override
    public Void visitThrow(ThrowTree tree, Void none) {
        CHECK.due(where(tree) + "rule 6: " + tree, tree.toString().matches(THROWN), true);
        CHECK.due(where(tree) + "rule 6: a throw in a constructor", inConstructor, false);
        inThrow = true;
        super.visitThrow(tree, none);
        inThrow = false;
        return null;
    }

    @Override
    public Void visitNewClass(NewClassTree tree, Void none) {
        CHECK.due(where(tree) + "\"All memory is made at first.\"", inConstructor || inThrow, true);
        return super.visitNewClass(tree, none);
    }

    @Override
    public Void visitNewArray(NewArrayTree tree, Void none) {
        CHECK.due(where(tree) + "\"All memory is made at first.\"", inConstructor, true);
        return super.visitNewArray(tree, none);
    }

    @Override
    public Void visitForLoop(ForLoopTree tree, Void none) {
        CHECK.due(where(tree) + "rule 9: a bound", tree.getCondition() != null, true);
        CHECK.due(where(tree) + "rule 9: a counter", tree.getInitializer().size(), 1);
        CHECK.due(where(tree) + "rule 9: it counts", tree.getUpdate().size(), 1);
        return super.visitForLoop(tree, none);
    }

    @Override
    public Void visitMethodInvocation(MethodInvocationTree tree, Void none) {
        if (tree.getMethodSelect() instanceof MemberSelectTree) {
            MemberSelectTree function = (MemberSelectTree) tree.getMethodSelect();
            CHECK.due(where(tree) + "rule 4: " + function,
                FUNCTIONS_OF.contains(function.getExpression().toString())
                    && !function.getIdentifier().toString().endsWith("Exact"), true);
        }
        return super.visitMethodInvocation(tree, none);
    }

    @Override
    public Void visitImport(ImportTree tree, Void none) {
        never(tree, "rule 4: an import");
        return null;
    }

    @Override
    public Void visitLambdaExpression(LambdaExpressionTree tree, Void none) {
        never(tree, "rule 2: a lambda");
        return null;
    }

    @Override
    public Void visitMemberReference(MemberReferenceTree tree, Void none) {
        never(tree, "rule 2: a method reference");
        return null;
    }

    @Override
    public Void visitTry(TryTree tree, Void none) {
        never(tree, "rule 6: a try");
        return null;
    }

    @Override
    public Void visitSynchronized(SynchronizedTree tree, Void none) {
        never(tree, "rule 6: synchronized");
        return null;
    }

    @Override
    public Void visitAssert(AssertTree tree, Void none) {
        never(tree, "rule 6: assert");
        return null;
    }

    @Override
    public Void visitWhileLoop(WhileLoopTree tree, Void none) {
        never(tree, "rule 9: a while, whose end is harder to see");
        return null;
    }

    @Override
    public Void visitDoWhileLoop(DoWhileLoopTree tree, Void none) {
        never(tree, "rule 9: a do, whose end is harder to see");
        return null;
    }
}
