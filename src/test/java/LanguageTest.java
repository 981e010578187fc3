import com.sun.source.tree.CatchTree;
import com.sun.source.tree.ClassTree;
import com.sun.source.tree.CompilationUnitTree;
import com.sun.source.tree.IdentifierTree;
import com.sun.source.tree.ImportTree;
import com.sun.source.tree.LineMap;
import com.sun.source.tree.MemberSelectTree;
import com.sun.source.tree.MethodInvocationTree;
import com.sun.source.tree.MethodTree;
import com.sun.source.tree.NewArrayTree;
import com.sun.source.tree.NewClassTree;
import com.sun.source.tree.ThrowTree;
import com.sun.source.tree.Tree;
import com.sun.source.tree.TryTree;
import com.sun.source.tree.VariableTree;
import com.sun.source.util.JavacTask;
import com.sun.source.util.SourcePositions;
import com.sun.source.util.TreeScanner;
import com.sun.source.util.Trees;
import java.io.IOException;
import java.util.HashSet;
import java.util.List;
import java.util.Map;
import java.util.Set;
import java.util.TreeMap;
import java.util.TreeSet;
import javax.lang.model.element.Modifier;
import javax.tools.JavaCompiler;
import javax.tools.StandardJavaFileManager;
import javax.tools.ToolProvider;

/**
 * The rules of LANGUAGE.md that the class's own lines show, each told with its number. Three are tested more
 * strictly than they are written: the class has no recursion (8), needs little of the library (4), and makes
 * objects in constructors alone (12), as the room for all calls of a run is small.
 */
public final class LanguageTest {
    private static final Map<Tree.Kind, Integer> RULED_OUT = Map.of(
        Tree.Kind.PACKAGE, 1, Tree.Kind.LAMBDA_EXPRESSION, 2, Tree.Kind.MEMBER_REFERENCE, 2,
        Tree.Kind.ASSERT, 6, Tree.Kind.SYNCHRONIZED, 6);
    private static final Set<String> LIBRARY = Set.of("Math.max", "Math.min");
    private static final Set<String> IMPORTS = Set.of(
        "java.util.ArrayList", "java.util.List", "java.util.Arrays", "java.util.Iterator",
        "java.util.NoSuchElementException");
    /** What the machine throws, or a class above it, is never caught. */
    private static final Set<String> OF_THE_MACHINE = Set.of(
        "ArrayIndexOutOfBoundsException", "IndexOutOfBoundsException", "NullPointerException", "ArithmeticException",
        "ClassCastException", "NegativeArraySizeException", "ArrayStoreException", "RuntimeException", "Exception",
        "Throwable");

    private final Due due = new Due();
    private final Map<String, Set<String>> calls = new TreeMap<>();
    private final Set<String> classes = new TreeSet<>();

    public static void main(String[] args) throws IOException {
        LanguageTest test = new LanguageTest();
        JavaCompiler compiler = ToolProvider.getSystemJavaCompiler();
        try (StandardJavaFileManager files = compiler.getStandardFileManager(null, null, null)) {
            JavacTask task = (JavacTask) compiler.getTask(null, files, null, List.of("-proc:none"), null,
                files.getJavaFileObjects(args[0]));
            SourcePositions positions = Trees.instance(task).getSourcePositions();
            for (CompilationUnitTree unit : task.parse()) {
                test.look(unit, positions);
            }
        }
        test.due.end();
    }

    private void look(CompilationUnitTree unit, SourcePositions positions) {
        new Names().scan(unit, null);
        new Rules(unit, positions).scan(unit, null);
        due.holds("rule 11: at most twelve classes, not " + classes, classes.size() <= 12);
        for (String method : calls.keySet()) {
            due.holds("rules 8 and 11: calls from " + method + " on go at most eight deep, none comes back",
                depth(method, new HashSet<>()) <= 8);
        }
    }

    /**
     * How many of the class's own methods stand open at most; far too many if one calls itself. Methods of one
     * name are taken for one, which can only make it more.
     */
    private int depth(String method, Set<String> open) {
        if (!open.add(method)) {
            return 1000;
        }
        int deepest = 0;
        for (String called : calls.get(method)) {
            deepest = Math.max(deepest, calls.containsKey(called) ? depth(called, open) : 0);
        }
        open.remove(method);
        return 1 + deepest;
    }

    /** Collects the classes and the methods, so that what is not the class's own can be told. */
    private final class Names extends TreeScanner<Void, Void> {
        @Override
        public Void visitClass(ClassTree tree, Void none) {
            classes.add(tree.getSimpleName().toString());
            return super.visitClass(tree, none);
        }

        @Override
        public Void visitMethod(MethodTree tree, Void none) {
            if (tree.getReturnType() != null) {
                calls.computeIfAbsent(tree.getName().toString(), name -> new HashSet<>());
            }
            return super.visitMethod(tree, none);
        }
    }

    private final class Rules extends TreeScanner<Void, Void> {
        private final CompilationUnitTree unit;
        private final SourcePositions positions;
        private MethodTree method;

        Rules(CompilationUnitTree unit, SourcePositions positions) {
            this.unit = unit;
            this.positions = positions;
        }

        @Override
        public Void scan(Tree tree, Void none) {
            if (tree != null && RULED_OUT.containsKey(tree.getKind())) {
                due.holds("rule " + RULED_OUT.get(tree.getKind()) + ": the code is without " + tree, false);
            }
            return super.scan(tree, none);
        }

        @Override
        public Void visitImport(ImportTree tree, Void none) {
            due.holds("rule 4: " + tree,
                !tree.isStatic() && IMPORTS.contains(tree.getQualifiedIdentifier().toString()));
            return super.visitImport(tree, none);
        }

        @Override
        public Void visitTry(TryTree tree, Void none) {
            due.holds("rule 6: no finally and no resources in " + method.getName(),
                tree.getFinallyBlock() == null && tree.getResources().isEmpty());
            return super.visitTry(tree, none);
        }

        @Override
        public Void visitCatch(CatchTree tree, Void none) {
            for (String type : tree.getParameter().getType().toString().split("\\s*\\|\\s*")) {
                due.holds("rule 7: " + method.getName() + " catches no " + type, !OF_THE_MACHINE.contains(type));
            }
            return super.visitCatch(tree, none);
        }

        @Override
        public Void visitThrow(ThrowTree tree, Void none) {
            due.holds("rule 6: no throw in a constructor", !isInConstructor());
            return super.visitThrow(tree, none);
        }

        @Override
        public Void visitClass(ClassTree tree, Void none) {
            due.holds("rule 2: " + tree.getSimpleName() + " is no class within a method", method == null);
            int fields = 0;
            for (Tree member : tree.getMembers()) {
                due.holds("rule 5: no static block in " + tree.getSimpleName(), member.getKind() != Tree.Kind.BLOCK);
                if (member instanceof VariableTree field) {
                    boolean isStatic = field.getModifiers().getFlags().contains(Modifier.STATIC);
                    fields += isStatic ? 0 : 1;
                    due.holds("rule 5: " + field + " is a constant of int or long", !isStatic
                        || field.getModifiers().getFlags().contains(Modifier.FINAL)
                        && Set.of("int", "long").contains(field.getType().toString()));
                }
            }
            due.holds("rule 11: some twenty fields in " + tree.getSimpleName() + ", not " + fields, fields <= 20);
            return super.visitClass(tree, none);
        }

        @Override
        public Void visitMethod(MethodTree tree, Void none) {
            LineMap lines = unit.getLineMap();
            long length = 1 + lines.getLineNumber(positions.getEndPosition(unit, tree))
                - lines.getLineNumber(positions.getStartPosition(unit, tree));
            due.holds("rule 11: " + tree.getName() + " has some sixty lines, not " + length, length <= 60);
            due.holds("rule 11: " + tree.getName() + " has at most seven parameters", tree.getParameters().size() <= 7);
            method = tree;
            super.visitMethod(tree, none);
            method = null;
            return null;
        }

        @Override
        public Void visitMethodInvocation(MethodInvocationTree tree, Void none) {
            String text = tree.getMethodSelect().toString();
            String name = text.substring(text.lastIndexOf('.') + 1);
            due.holds("rule 4: " + text + " is allowed", calls.containsKey(name) || LIBRARY.contains(text)
                || text.equals("super"));
            if (calls.containsKey(name) && method.getReturnType() != null) {
                calls.get(method.getName().toString()).add(name);
            }
            return super.visitMethodInvocation(tree, none);
        }

        @Override
        public Void visitMemberSelect(MemberSelectTree tree, Void none) {
            if (tree.getExpression() instanceof IdentifierTree of && Character.isUpperCase(of.getName().charAt(0))) {
                due.holds("rule 4: " + tree + " is allowed",
                    classes.contains(of.getName().toString()) || LIBRARY.contains(tree.toString()));
            }
            return super.visitMemberSelect(tree, none);
        }

        @Override
        public Void visitNewClass(NewClassTree tree, Void none) {
            due.holds("rule 12: " + tree + " is one of the class's own and made in a constructor",
                isInConstructor() && classes.contains(tree.getIdentifier().toString()));
            return super.visitNewClass(tree, none);
        }

        @Override
        public Void visitNewArray(NewArrayTree tree, Void none) {
            due.holds("rule 12: " + tree + " is made in a constructor", isInConstructor());
            return super.visitNewArray(tree, none);
        }

        private boolean isInConstructor() {
            return method != null && method.getReturnType() == null;
        }
    }
}
