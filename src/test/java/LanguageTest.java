import com.sun.source.tree.AssertTree;
import com.sun.source.tree.BlockTree;
import com.sun.source.tree.CatchTree;
import com.sun.source.tree.ClassTree;
import com.sun.source.tree.CompilationUnitTree;
import com.sun.source.tree.ImportTree;
import com.sun.source.tree.LambdaExpressionTree;
import com.sun.source.tree.LiteralTree;
import com.sun.source.tree.MemberReferenceTree;
import com.sun.source.tree.MemberSelectTree;
import com.sun.source.tree.MethodInvocationTree;
import com.sun.source.tree.MethodTree;
import com.sun.source.tree.NewClassTree;
import com.sun.source.tree.SynchronizedTree;
import com.sun.source.tree.ThrowTree;
import com.sun.source.tree.Tree;
import com.sun.source.tree.TryTree;
import com.sun.source.tree.UnionTypeTree;
import com.sun.source.tree.VariableTree;
import com.sun.source.util.JavacTask;
import com.sun.source.util.SourcePositions;
import com.sun.source.util.TreeScanner;
import com.sun.source.util.Trees;
import java.io.IOException;
import java.nio.file.Path;
import java.util.List;
import java.util.Set;
import javax.lang.model.element.Modifier;
import javax.tools.JavaCompiler;
import javax.tools.StandardJavaFileManager;
import javax.tools.ToolProvider;

/** What can be seen of LANGUAGE.md's rules in the text of the class. */
public final class LanguageTest {
    private static final Path SOURCE = Path.of("src/main/java/SaveRestore.java");
    private static final Set<String> IMPORTS = Set.of("java.util.ArrayList", "java.util.Arrays", "java.util.Iterator",
        "java.util.List", "java.util.NoSuchElementException");
    private static final Set<String> LIBRARY = Set.of("System.arraycopy", "Arrays.copyOf", "Arrays.copyOfRange",
        "Arrays.fill", "List.of");
    private static final Set<String> OWNERS = Set.of("System", "Arrays", "List", "Objects", "Collections", "Thread");
    private static final Set<String> EXCEPTIONS = Set.of("IllegalStateException", "IllegalArgumentException",
        "IndexOutOfBoundsException", "ArithmeticException", "UnsupportedOperationException", "NoSuchElementException",
        "RuntimeException");

    public static void main(String[] args) throws IOException {
        Due due = new Due("language");
        JavaCompiler compiler = ToolProvider.getSystemJavaCompiler();
        try (StandardJavaFileManager files = compiler.getStandardFileManager(null, null, null)) {
            JavacTask task = (JavacTask) compiler.getTask(null, files, null, null, null, files.getJavaFileObjects(SOURCE));
            for (CompilationUnitTree unit : task.parse()) {
                due.same("a package line", "null", String.valueOf(unit.getPackage()));
                due.same("classes of the file", "1", Integer.toString(unit.getTypeDecls().size()));
                new Rules(due, unit, Trees.instance(task).getSourcePositions()).scan(unit, null);
            }
        }
        due.end();
    }

    private static final class Rules extends TreeScanner<Void, Void> {
        private final Due due;
        private final CompilationUnitTree unit;
        private final SourcePositions positions;
        private int classes = 0;
        private boolean inConstructor = false;

        Rules(Due due, CompilationUnitTree unit, SourcePositions positions) {
            this.due = due;
            this.unit = unit;
            this.positions = positions;
        }

        private long lineOf(long position) {
            return unit.getLineMap().getLineNumber(position);
        }

        private void holds(int rule, String what, boolean right, Tree at) {
            String place = "rule " + rule + ", line " + lineOf(positions.getStartPosition(unit, at)) + ": " + what;
            due.same(place, "true", Boolean.toString(right));
        }

        @Override
        public Void visitImport(ImportTree tree, Void none) {
            holds(4, "an import that is listed", IMPORTS.contains(tree.getQualifiedIdentifier().toString()), tree);
            return null;
        }

        @Override
        public Void visitClass(ClassTree tree, Void none) {
            classes++;
            holds(11, "at most twelve classes", classes <= 12, tree);
            Set<Modifier> flags = tree.getModifiers().getFlags();
            boolean open = flags.contains(Modifier.PUBLIC) || flags.contains(Modifier.PROTECTED);
            holds(1, "a class inside is private or package-visible", classes == 1 || !open, tree);
            int fields = 0;
            for (Tree member : tree.getMembers()) {
                holds(5, "no static initialiser block", !(member instanceof BlockTree block && block.isStatic()), member);
                if (member instanceof VariableTree field) {
                    Set<Modifier> its = field.getModifiers().getFlags();
                    holds(5, "a static field is final",
                        !its.contains(Modifier.STATIC) || its.contains(Modifier.FINAL), field);
                    fields += its.contains(Modifier.STATIC) ? 0 : 1;
                }
            }
            holds(11, "at most twenty fields", fields <= 20, tree);
            return super.visitClass(tree, none);
        }

        @Override
        public Void visitMethod(MethodTree tree, Void none) {
            holds(11, "at most seven parameters", tree.getParameters().size() <= 7, tree);
            long lines = lineOf(positions.getEndPosition(unit, tree)) - lineOf(positions.getStartPosition(unit, tree));
            holds(11, "at most sixty lines", lines <= 60, tree);
            holds(6, "no equals, hashCode or toString",
                !List.of("equals", "hashCode", "toString").contains(tree.getName().toString()), tree);
            inConstructor = tree.getReturnType() == null;
            super.visitMethod(tree, none);
            inConstructor = false;
            return null;
        }

        @Override
        public Void visitMethodInvocation(MethodInvocationTree tree, Void none) {
            if (tree.getMethodSelect() instanceof MemberSelectTree select) {
                boolean ofLibrary = OWNERS.contains(select.getExpression().toString());
                holds(4, select + " is listed", !ofLibrary || LIBRARY.contains(select.toString()), tree);
                holds(4, "none of those whose name ends in Exact", !select.toString().endsWith("Exact"), tree);
            }
            return super.visitMethodInvocation(tree, none);
        }

        @Override
        public Void visitThrow(ThrowTree tree, Void none) {
            holds(6, "no throw in a constructor", !inConstructor, tree);
            boolean written = tree.getExpression() instanceof NewClassTree made
                && EXCEPTIONS.contains(made.getIdentifier().toString())
                && made.getArguments().stream().allMatch(each -> each instanceof LiteralTree);
            holds(6, "throw new E(\"a written text\")", written, tree);
            return super.visitThrow(tree, none);
        }

        @Override
        public Void visitLambdaExpression(LambdaExpressionTree tree, Void none) {
            holds(2, "no lambda", false, tree);
            return null;
        }

        @Override
        public Void visitMemberReference(MemberReferenceTree tree, Void none) {
            holds(2, "no method reference", false, tree);
            return null;
        }

        @Override
        public Void visitTry(TryTree tree, Void none) {
            holds(6, "no finally", tree.getFinallyBlock() == null, tree);
            holds(6, "no try with resources", tree.getResources().isEmpty(), tree);
            for (CatchTree each : tree.getCatches()) {
                Tree type = each.getParameter().getType();
                List<? extends Tree> types = type instanceof UnionTypeTree union ? union.getTypeAlternatives() : List.of(type);
                types.forEach(one -> holds(6, "a catch of a listed class", EXCEPTIONS.contains(one.toString()), each));
            }
            return super.visitTry(tree, none);
        }

        @Override
        public Void visitSynchronized(SynchronizedTree tree, Void none) {
            holds(6, "no synchronized", false, tree);
            return null;
        }

        @Override
        public Void visitAssert(AssertTree tree, Void none) {
            holds(6, "no assert", false, tree);
            return null;
        }
    }
}
