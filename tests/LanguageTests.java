import com.sun.source.tree.AssertTree;
import com.sun.source.tree.BinaryTree;
import com.sun.source.tree.ClassTree;
import com.sun.source.tree.CompilationUnitTree;
import com.sun.source.tree.DoWhileLoopTree;
import com.sun.source.tree.ForLoopTree;
import com.sun.source.tree.ImportTree;
import com.sun.source.tree.LambdaExpressionTree;
import com.sun.source.tree.MemberReferenceTree;
import com.sun.source.tree.MethodInvocationTree;
import com.sun.source.tree.MethodTree;
import com.sun.source.tree.NewClassTree;
import com.sun.source.tree.SynchronizedTree;
import com.sun.source.tree.ThrowTree;
import com.sun.source.tree.Tree;
import com.sun.source.tree.TryTree;
import com.sun.source.tree.TypeCastTree;
import com.sun.source.tree.VariableTree;
import com.sun.source.tree.WhileLoopTree;
import com.sun.source.util.JavacTask;
import com.sun.source.util.TreePath;
import com.sun.source.util.TreePathScanner;
import com.sun.source.util.Trees;
import java.io.IOException;
import java.nio.file.Files;
import java.nio.file.Path;
import java.util.ArrayList;
import java.util.List;
import java.util.Map;
import java.util.Set;
import java.util.TreeMap;
import java.util.TreeSet;
import javax.lang.model.element.Element;
import javax.lang.model.element.ElementKind;
import javax.lang.model.element.Modifier;
import javax.lang.model.type.TypeMirror;
import javax.tools.JavaCompiler;
import javax.tools.StandardJavaFileManager;
import javax.tools.ToolProvider;

/** The class keeps to the rules of ../shared/LANGUAGE.md that can be seen from its source, by javac's own trees. */
public final class LanguageTests {
    private static final Path SOURCE = Path.of("src", "main", "java", "Heapwitness.java");
    private static final Set<String> LIBRARY = Set.of("java.lang.Math.max", "java.lang.Math.min",
        "java.lang.Long.bitCount", "java.lang.System.arraycopy");
    private static final Set<String> THROWN = Set.of("IllegalStateException", "IllegalArgumentException",
        "IndexOutOfBoundsException", "ArithmeticException", "UnsupportedOperationException", "NoSuchElementException",
        "RuntimeException");

    private static int wrong = 0;

    private static void due(boolean isSo, String what) {
        if (!isSo) {
            wrong++;
            System.out.println(what);
        }
    }

    /** Looks at each part of the source, and keeps which method calls which. */
    private static final class Reader extends TreePathScanner<Void, Void> {
        final Map<String, Set<String>> calls = new TreeMap<>();
        final List<String> face = new ArrayList<>();
        private final Trees trees;
        private final CompilationUnitTree unit;
        private int classes = 0;

        Reader(Trees trees, CompilationUnitTree unit) {
            this.trees = trees;
            this.unit = unit;
        }

        private static String name(Element method) {
            return method.getEnclosingElement() + "." + method.getSimpleName();
        }

        private long line(long position) {
            return unit.getLineMap().getLineNumber(position);
        }

        private String at(Tree tree) {
            return " at line " + line(trees.getSourcePositions().getStartPosition(unit, tree));
        }

        private MethodTree around() {
            for (TreePath path = getCurrentPath(); path != null; path = path.getParentPath()) {
                if (path.getLeaf() instanceof MethodTree) {
                    return (MethodTree) path.getLeaf();
                }
            }
            return null;
        }

        private void refuse(Tree tree) {
            due(false, "rules 2, 3, 6: " + tree.getKind() + at(tree));
        }

        private void keepCall(Tree tree) {
            Element called = trees.getElement(getCurrentPath());
            MethodTree caller = around();
            String owner = caller == null ? "Heapwitness.<fields>"
                : name(trees.getElement(trees.getPath(unit, caller)));
            boolean isOwn = called.toString().isEmpty() || name(called).startsWith("Heapwitness");
            due(isOwn || called.getKind() == ElementKind.CONSTRUCTOR || LIBRARY.contains(name(called)),
                "rule 4: " + name(called) + at(tree));
            calls.computeIfAbsent(owner, key -> new TreeSet<>()).add(name(called));
        }

        @Override
        public Void visitImport(ImportTree tree, Void none) {
            due(tree.getQualifiedIdentifier().toString().equals("java.util.NoSuchElementException"), "rule 4:" + at(tree));
            return super.visitImport(tree, none);
        }

        @Override
        public Void visitClass(ClassTree tree, Void none) {
            classes++;
            due(classes <= 12, "rule 11: more than 12 classes" + at(tree));
            due(tree.getKind() == Tree.Kind.CLASS && !tree.getSimpleName().contentEquals(""), "rule 2:" + at(tree));
            long fields = tree.getMembers().stream().filter(m -> m instanceof VariableTree
                && !((VariableTree) m).getModifiers().getFlags().contains(Modifier.STATIC)).count();
            due(fields <= 20, "rule 11: " + fields + " fields" + at(tree));
            return super.visitClass(tree, none);
        }

        @Override
        public Void visitVariable(VariableTree tree, Void none) {
            Set<Modifier> flags = tree.getModifiers().getFlags();
            due(!flags.contains(Modifier.STATIC) || flags.contains(Modifier.FINAL)
                && Set.of("int", "long", "boolean", "char", "String").contains(tree.getType().toString()), "rule 5:" + at(tree));
            return super.visitVariable(tree, none);
        }

        @Override
        public Void visitMethod(MethodTree tree, Void none) {
            Element method = trees.getElement(getCurrentPath());
            long first = line(trees.getSourcePositions().getStartPosition(unit, tree));
            long last = line(trees.getSourcePositions().getEndPosition(unit, tree));
            due(last - first < 60, "rule 11: a long method" + at(tree));
            due(tree.getParameters().size() <= 7, "rule 11: more than 7 parameters" + at(tree));
            if (method.getModifiers().contains(Modifier.PUBLIC)) {
                face.add(name(method));
            }
            return super.visitMethod(tree, none);
        }

        @Override
        public Void visitMethodInvocation(MethodInvocationTree tree, Void none) {
            keepCall(tree);
            return super.visitMethodInvocation(tree, none);
        }

        @Override
        public Void visitNewClass(NewClassTree tree, Void none) {
            keepCall(tree);
            boolean isThrown = getCurrentPath().getParentPath().getLeaf() instanceof ThrowTree;
            due(isThrown == THROWN.contains(tree.getIdentifier().toString()), "rule 6:" + at(tree));
            return super.visitNewClass(tree, none);
        }

        @Override
        public Void visitThrow(ThrowTree tree, Void none) {
            due(tree.getExpression() instanceof NewClassTree, "rule 6:" + at(tree));
            MethodTree method = around();
            due(method != null && !method.getName().contentEquals("<init>"), "rule 6: in a constructor" + at(tree));
            return super.visitThrow(tree, none);
        }

        @Override
        public Void visitBinary(BinaryTree tree, Void none) {
            TypeMirror type = trees.getTypeMirror(getCurrentPath());
            due(tree.getKind() != Tree.Kind.PLUS || type == null || type.getKind().isPrimitive(), "rule 10:" + at(tree));
            if (tree.getKind() == Tree.Kind.REMAINDER || tree.getKind() == Tree.Kind.DIVIDE) {
                due(type != null && (type.toString().equals("double") || type.toString().equals("float")),
                    "rule 7: an int is divided" + at(tree));
            }
            return super.visitBinary(tree, none);
        }

        @Override
        public Void visitForLoop(ForLoopTree tree, Void none) {
            due(tree.getCondition() != null && tree.getUpdate().size() == 1
                && tree.getUpdate().get(0).toString().matches("\\w+(\\+\\+|--);?")
                && tree.getCondition().toString().matches(".*(<|>=).*"), "rule 9:" + at(tree));
            return super.visitForLoop(tree, none);
        }

        @Override
        public Void visitTypeCast(TypeCastTree tree, Void none) {
            due(Set.of("double", "float").contains(tree.getType().toString()), "rule 6: a cast" + at(tree));
            return super.visitTypeCast(tree, none);
        }

        @Override
        public Void visitWhileLoop(WhileLoopTree tree, Void none) {
            refuse(tree);
            return null;
        }

        @Override
        public Void visitDoWhileLoop(DoWhileLoopTree tree, Void none) {
            refuse(tree);
            return null;
        }

        @Override
        public Void visitTry(TryTree tree, Void none) {
            refuse(tree);
            return null;
        }

        @Override
        public Void visitLambdaExpression(LambdaExpressionTree tree, Void none) {
            refuse(tree);
            return null;
        }

        @Override
        public Void visitMemberReference(MemberReferenceTree tree, Void none) {
            refuse(tree);
            return null;
        }

        @Override
        public Void visitSynchronized(SynchronizedTree tree, Void none) {
            refuse(tree);
            return null;
        }

        @Override
        public Void visitAssert(AssertTree tree, Void none) {
            refuse(tree);
            return null;
        }

        /** The most calls that stand open at once from here, or far too many if a method comes to itself. */
        int depth(String method, int open) {
            if (open > 40) {
                return open;
            }
            int most = open;
            for (String called : calls.getOrDefault(method, Set.of())) {
                most = Math.max(most, depth(called, open + 1));
            }
            return most;
        }
    }

    public static void main(String[] args) throws IOException {
        String text = Files.readString(SOURCE);
        due(text.chars().allMatch(sign -> sign < 128), "rule 4: a sign beyond 127");
        JavaCompiler compiler = ToolProvider.getSystemJavaCompiler();
        try (StandardJavaFileManager files = compiler.getStandardFileManager(null, null, null)) {
            JavacTask task = (JavacTask) compiler.getTask(null, files, null, List.of("-proc:none"), null,
                files.getJavaFileObjects(SOURCE.toFile()));
            CompilationUnitTree unit = task.parse().iterator().next();
            task.analyze();
            due(unit.getPackageName() == null && unit.getTypeDecls().size() == 1, "it is not one class without a package");
            Reader reader = new Reader(Trees.instance(task), unit);
            reader.scan(unit, null);
            due(reader.face.size() == 26, "the public methods are " + reader.face);
            for (String method : reader.face) {
                int depth = reader.depth(method, 1);
                due(depth <= 8, "rule 11: " + depth + " calls deep from " + method);
            }
        }
        System.out.println(wrong == 0 ? "the rules are kept" : wrong + " rules are not kept");
        if (wrong != 0) {
            System.exit(1);
        }
    }
}
