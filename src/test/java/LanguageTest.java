import com.sun.source.tree.ClassTree;
import com.sun.source.tree.CompilationUnitTree;
import com.sun.source.tree.ExpressionTree;
import com.sun.source.tree.ForLoopTree;
import com.sun.source.tree.IdentifierTree;
import com.sun.source.tree.ImportTree;
import com.sun.source.tree.MethodInvocationTree;
import com.sun.source.tree.MethodTree;
import com.sun.source.tree.NewArrayTree;
import com.sun.source.tree.NewClassTree;
import com.sun.source.tree.ThrowTree;
import com.sun.source.tree.Tree;
import com.sun.source.tree.VariableTree;
import com.sun.source.util.JavacTask;
import com.sun.source.util.SourcePositions;
import com.sun.source.util.TreeScanner;
import com.sun.source.util.Trees;
import java.io.IOException;
import java.nio.file.Path;
import java.util.EnumSet;
import java.util.List;
import java.util.Map;
import java.util.Set;
import java.util.TreeMap;
import java.util.TreeSet;
import javax.lang.model.element.Modifier;
import javax.tools.JavaCompiler;
import javax.tools.StandardJavaFileManager;
import javax.tools.ToolProvider;

/** The rules of LANGUAGE.md that can be read off the source; FaceTest looks at rule 1. */
public final class LanguageTest {
    private static final Path SOURCE = Path.of("src/main/java/EphemeronHeap.java");
    private static final Check CHECK = new Check();

    private static final Set<String> EXCEPTIONS = Set.of("IllegalStateException", "IllegalArgumentException",
        "IndexOutOfBoundsException", "ArithmeticException", "UnsupportedOperationException",
        "NoSuchElementException", "RuntimeException");
    private static final Set<String> TYPES = Set.of("int", "boolean", "int[]");
    private static final Set<String> LIBRARY = Set.of("Integer.bitCount");
    /** What no rule speaks of kindly, or what the program has no need of. */
    private static final Set<Tree.Kind> UNUSED = EnumSet.of(Tree.Kind.LAMBDA_EXPRESSION, Tree.Kind.MEMBER_REFERENCE,
        Tree.Kind.TRY, Tree.Kind.SYNCHRONIZED, Tree.Kind.ASSERT, Tree.Kind.WHILE_LOOP, Tree.Kind.DO_WHILE_LOOP,
        Tree.Kind.TYPE_CAST, Tree.Kind.INSTANCE_OF, Tree.Kind.ANNOTATION, Tree.Kind.DIVIDE, Tree.Kind.REMAINDER,
        Tree.Kind.DIVIDE_ASSIGNMENT, Tree.Kind.REMAINDER_ASSIGNMENT, Tree.Kind.NULL_LITERAL,
        Tree.Kind.DOUBLE_LITERAL, Tree.Kind.FLOAT_LITERAL, Tree.Kind.INTERFACE, Tree.Kind.ENUM, Tree.Kind.RECORD);

    public static void main(String[] args) throws IOException {
        JavaCompiler compiler = ToolProvider.getSystemJavaCompiler();
        try (StandardJavaFileManager files = compiler.getStandardFileManager(null, null, null)) {
            JavacTask task = (JavacTask) compiler.getTask(null, files, null, List.of("--release", "17"), null,
                files.getJavaFileObjects(SOURCE));
            for (CompilationUnitTree unit : task.parse()) {
                Reader reader = new Reader(unit, Trees.instance(task).getSourcePositions());
                reader.scan(unit, null);
                reader.lookAtCalls();
            }
        }
        CHECK.finish();
    }

    private static final class Reader extends TreeScanner<Void, Void> {
        private final CompilationUnitTree unit;
        private final SourcePositions positions;
        private final Map<String, Set<String>> calls = new TreeMap<>();
        private MethodTree method;
        private boolean thrown;

        Reader(CompilationUnitTree unit, SourcePositions positions) {
            this.unit = unit;
            this.positions = positions;
            CHECK.equal("rule 1: types in the file", unit.getTypeDecls().size(), 1);
            CHECK.equal("rule 1: no package line", unit.getPackageName() == null, true);
        }

        private void refuse(String rule, Tree tree) {
            long line = unit.getLineMap().getLineNumber(positions.getStartPosition(unit, tree));
            CHECK.equal(rule + ", line " + line, tree.toString().trim().lines().findFirst().orElse(""), "not there");
        }

        @Override
        public Void scan(Tree tree, Void nothing) {
            if (tree != null && UNUSED.contains(tree.getKind())) {
                refuse("rules 2, 3, 6, 7, 9: no " + tree.getKind(), tree);
            }
            return super.scan(tree, nothing);
        }

        @Override
        public Void visitImport(ImportTree tree, Void nothing) {
            if (!tree.getQualifiedIdentifier().toString().equals("java.util.NoSuchElementException")) {
                refuse("rule 4: imports", tree);
            }
            return null;
        }

        @Override
        public Void visitClass(ClassTree tree, Void nothing) {
            int fields = 0;
            for (Tree member : tree.getMembers()) {
                if (member instanceof VariableTree field) {
                    boolean isStatic = field.getModifiers().getFlags().contains(Modifier.STATIC);
                    fields += isStatic ? 0 : 1;
                    if (isStatic && !field.getModifiers().getFlags().contains(Modifier.FINAL)) {
                        refuse("rule 5: static fields are final", field);
                    }
                } else if (!(member instanceof MethodTree)) {
                    refuse("rules 2 and 5: fields and methods alone", member);
                }
            }
            CHECK.equal("rule 11: some twenty fields", fields <= 20, true);
            return super.visitClass(tree, nothing);
        }

        @Override
        public Void visitVariable(VariableTree tree, Void nothing) {
            if (!TYPES.contains(tree.getType().toString())) {
                refuse("rule 3: types", tree);
            }
            return super.visitVariable(tree, nothing);
        }

        @Override
        public Void visitMethod(MethodTree tree, Void nothing) {
            long first = unit.getLineMap().getLineNumber(positions.getStartPosition(unit, tree));
            long last = unit.getLineMap().getLineNumber(positions.getEndPosition(unit, tree));
            CHECK.equal("rule 11: " + tree.getName() + " is short", last - first < 60, true);
            CHECK.equal("rule 11: parameters of " + tree.getName(), tree.getParameters().size() <= 7, true);
            CHECK.equal("one method bears the name " + tree.getName(), calls.containsKey(name(tree)), false);
            calls.put(name(tree), new TreeSet<>());
            method = tree;
            super.visitMethod(tree, nothing);
            method = null;
            return null;
        }

        private static String name(MethodTree tree) {
            return tree.getName().toString();
        }

        private boolean inConstructor() {
            return method != null && method.getReturnType() == null;
        }

        @Override
        public Void visitMethodInvocation(MethodInvocationTree tree, Void nothing) {
            ExpressionTree called = tree.getMethodSelect();
            if (called instanceof IdentifierTree own) {
                // The call of super() in a constructor is the compiler's.
                if (!own.getName().contentEquals("super")) {
                    calls.get(name(method)).add(own.getName().toString());
                }
            } else if (!LIBRARY.contains(called.toString())) {
                refuse("rule 4: the library", tree);
            }
            return super.visitMethodInvocation(tree, nothing);
        }

        @Override
        public Void visitThrow(ThrowTree tree, Void nothing) {
            if (inConstructor() || !(tree.getExpression() instanceof NewClassTree)) {
                refuse("rule 6: throw new E(..), and none in a constructor", tree);
            }
            thrown = true;
            super.visitThrow(tree, nothing);
            thrown = false;
            return null;
        }

        @Override
        public Void visitNewClass(NewClassTree tree, Void nothing) {
            boolean written = tree.getArguments().stream().allMatch(a -> a.getKind() == Tree.Kind.STRING_LITERAL);
            if (!thrown || !written || !EXCEPTIONS.contains(tree.getIdentifier().toString())) {
                refuse("rules 6 and 12: no object but a listed exception that is thrown", tree);
            }
            return super.visitNewClass(tree, nothing);
        }

        @Override
        public Void visitNewArray(NewArrayTree tree, Void nothing) {
            if (!inConstructor()) {
                refuse("rule 12: rows are made in the constructor", tree);
            }
            return super.visitNewArray(tree, nothing);
        }

        @Override
        public Void visitForLoop(ForLoopTree tree, Void nothing) {
            boolean counted = tree.getInitializer().size() == 1 && tree.getUpdate().size() == 1
                && tree.getCondition() != null && tree.getCondition().getKind() == Tree.Kind.LESS_THAN
                && tree.getUpdate().get(0).getExpression().getKind() == Tree.Kind.POSTFIX_INCREMENT;
            if (!counted) {
                refuse("rule 9: a counter against a bound", tree);
            }
            return super.visitForLoop(tree, nothing);
        }

        void lookAtCalls() {
            for (String name : calls.keySet()) {
                int depth = depth(name, 0);
                CHECK.equal("rules 8 and 11: calls of " + name + " go " + depth + " deep", depth <= 8, true);
            }
        }

        /** How many calls stand open at most, this one too; a number beyond the rule if there is recursion. */
        private int depth(String name, int above) {
            int below = 0;
            if (above <= 8 && calls.containsKey(name)) {
                for (String called : calls.get(name)) {
                    below = Math.max(below, depth(called, above + 1));
                }
            }
            return below + 1;
        }
    }
}
