import com.sun.source.tree.*;
import com.sun.source.util.JavacTask;
import com.sun.source.util.SourcePositions;
import com.sun.source.util.TreeScanner;
import com.sun.source.util.Trees;
import java.io.File;
import java.io.IOException;
import java.util.ArrayList;
import java.util.HashMap;
import java.util.List;
import java.util.Map;
import java.util.Set;
import java.util.TreeSet;
import javax.lang.model.element.Modifier;
import javax.tools.JavaCompiler;
import javax.tools.StandardJavaFileManager;
import javax.tools.ToolProvider;

/**
 * Reads src/main/java/DoorBench.java and holds it against ../shared/LANGUAGE.md. It is stricter
 * than the rules where the program needs less than they leave: no try, no cast, no division, no
 * loop but for, nothing made outside of constructors. FaceTest looks at rule 1.
 */
public final class RulesTest {
    private static final String SOURCE = "src/main/java/DoorBench.java";
    private static final int MOST_LINES = 60;
    private static final int MOST_PARAMETERS = 7;
    private static final int MOST_DEEP = 8;
    private static final int MOST_FIELDS = 20;
    private static final int MOST_CLASSES = 12;

    private static final Set<String> IMPORTS = Set.of("java.util.Arrays", "java.util.NoSuchElementException");
    private static final Set<String> LIBRARY = Set.of("Math.max", "Math.min", "Arrays.fill");
    private static final Set<String> EXCEPTIONS = Set.of("IndexOutOfBoundsException", "NoSuchElementException");

    /** What the program does without, and the rule that rules it out or asks for a guard before it. */
    private static final Map<Tree.Kind, Integer> UNUSED = Map.ofEntries(
        Map.entry(Tree.Kind.LAMBDA_EXPRESSION, 2), Map.entry(Tree.Kind.MEMBER_REFERENCE, 2),
        Map.entry(Tree.Kind.DOUBLE_LITERAL, 3), Map.entry(Tree.Kind.FLOAT_LITERAL, 3),
        Map.entry(Tree.Kind.TRY, 6), Map.entry(Tree.Kind.SYNCHRONIZED, 6), Map.entry(Tree.Kind.ASSERT, 6),
        Map.entry(Tree.Kind.TYPE_CAST, 6), Map.entry(Tree.Kind.INSTANCE_OF, 6), Map.entry(Tree.Kind.NULL_LITERAL, 7),
        Map.entry(Tree.Kind.DIVIDE, 7), Map.entry(Tree.Kind.DIVIDE_ASSIGNMENT, 7), Map.entry(Tree.Kind.REMAINDER, 7),
        Map.entry(Tree.Kind.REMAINDER_ASSIGNMENT, 7), Map.entry(Tree.Kind.WHILE_LOOP, 9),
        Map.entry(Tree.Kind.DO_WHILE_LOOP, 9));

    private static int looked = 0;
    private static int wrong = 0;

    private static void rule(int number, String what, boolean kept) {
        looked++;
        if (!kept) {
            wrong++;
            System.out.println("rule " + number + ": " + what);
        }
    }

    private static final class Reader extends TreeScanner<Void, Void> {
        final Map<String, Set<String>> calls = new HashMap<>();
        final Set<String> classes = new TreeSet<>();
        private final CompilationUnitTree unit;
        private final SourcePositions positions;
        private String method = "";

        Reader(CompilationUnitTree unit, SourcePositions positions) {
            this.unit = unit;
            this.positions = positions;
        }

        private long lineOf(long position) {
            return unit.getLineMap().getLineNumber(position);
        }

        @Override
        public Void scan(Tree tree, Void none) {
            if (tree != null) {
                Integer broken = UNUSED.get(tree.getKind());
                rule(broken == null ? 0 : broken, tree.getKind() + " in " + method, broken == null);
            }
            return super.scan(tree, none);
        }

        @Override
        public Void visitImport(ImportTree tree, Void none) {
            rule(4, "import of " + tree.getQualifiedIdentifier(), IMPORTS.contains(tree.getQualifiedIdentifier().toString()));
            return null;
        }

        @Override
        public Void visitClass(ClassTree tree, Void none) {
            String name = tree.getSimpleName().toString();
            classes.add(name);
            int fields = 0;
            for (Tree member : tree.getMembers()) {
                rule(5, "an initialiser block in " + name, member.getKind() != Tree.Kind.BLOCK);
                if (member instanceof VariableTree) {
                    fields += field((VariableTree) member);
                }
            }
            rule(11, fields + " fields in " + name, fields <= MOST_FIELDS);
            boolean inside = !name.equals("DoorBench");
            rule(1, name + " is not static", !inside || tree.getModifiers().getFlags().contains(Modifier.STATIC));
            return super.visitClass(tree, none);
        }

        /** 1 for a field of each object, 0 for a constant. */
        private int field(VariableTree tree) {
            Set<Modifier> flags = tree.getModifiers().getFlags();
            if (!flags.contains(Modifier.STATIC)) {
                return 1;
            }
            rule(5, tree.getName() + " is not final", flags.contains(Modifier.FINAL));
            rule(5, tree.getName() + " is not an int", tree.getType().toString().equals("int"));
            return 0;
        }

        @Override
        public Void visitMethod(MethodTree tree, Void none) {
            String outer = method;
            method = tree.getName().toString();
            long lines = lineOf(positions.getEndPosition(unit, tree)) - lineOf(positions.getStartPosition(unit, tree)) + 1;
            rule(11, lines + " lines in " + method, lines <= MOST_LINES);
            rule(11, tree.getParameters().size() + " parameters of " + method, tree.getParameters().size() <= MOST_PARAMETERS);
            // Calls are followed by the name alone, so that it must tell which method is meant.
            rule(1, "a second " + method, method.equals("<init>") || !calls.containsKey(method));
            calls.computeIfAbsent(method, m -> new TreeSet<>());
            super.visitMethod(tree, none);
            method = outer;
            return null;
        }

        @Override
        public Void visitMethodInvocation(MethodInvocationTree tree, Void none) {
            String called = tree.getMethodSelect().toString();
            boolean own = !called.contains(".") || called.startsWith("spans.");
            rule(4, "a call of " + called + " in " + method, own || LIBRARY.contains(called));
            calls.get(method).add(called.substring(called.indexOf('.') + 1));
            return super.visitMethodInvocation(tree, none);
        }

        @Override
        public Void visitForLoop(ForLoopTree tree, Void none) {
            rule(9, "a loop without an end or a step in " + method, tree.getCondition() != null && tree.getUpdate().size() == 1);
            return super.visitForLoop(tree, none);
        }

        @Override
        public Void visitThrow(ThrowTree tree, Void none) {
            boolean made = tree.getExpression() instanceof NewClassTree;
            rule(6, "a throw that makes nothing in " + method, made);
            if (made) {
                NewClassTree exception = (NewClassTree) tree.getExpression();
                rule(6, "throw of " + exception, EXCEPTIONS.contains(exception.getIdentifier().toString()));
                boolean written = exception.getArguments().stream().allMatch(a -> a.getKind() == Tree.Kind.STRING_LITERAL);
                rule(6, "a text that isn't written: " + exception, written && exception.getArguments().size() <= 1);
            }
            rule(6, "a throw in a constructor", !method.equals("<init>"));
            return null;
        }

        @Override
        public Void visitNewClass(NewClassTree tree, Void none) {
            rule(12, tree + " in " + method, method.equals("<init>"));
            return super.visitNewClass(tree, none);
        }

        @Override
        public Void visitNewArray(NewArrayTree tree, Void none) {
            rule(12, tree + " in " + method, method.equals("<init>"));
            return super.visitNewArray(tree, none);
        }

        /** How many calls stand open at once from this method on; more than the rule lets: one more. */
        int deep(String from, int open) {
            int most = open;
            for (String called : open > MOST_DEEP ? Set.<String>of() : calls.getOrDefault(from, Set.of())) {
                most = Math.max(most, deep(called, open + 1));
            }
            return most;
        }
    }

    private static Reader read() throws IOException {
        JavaCompiler compiler = ToolProvider.getSystemJavaCompiler();
        try (StandardJavaFileManager files = compiler.getStandardFileManager(null, null, null)) {
            JavacTask task = (JavacTask) compiler.getTask(null, files, null, List.of(), null, files.getJavaFileObjects(new File(SOURCE)));
            List<CompilationUnitTree> units = new ArrayList<>();
            task.parse().forEach(units::add);
            CompilationUnitTree unit = units.get(0);
            rule(1, "a package line", unit.getPackageName() == null);
            rule(1, "more than one class on the outside", unit.getTypeDecls().size() == 1);
            Reader reader = new Reader(unit, Trees.instance(task).getSourcePositions());
            reader.scan(unit, null);
            return reader;
        }
    }

    public static void main(String[] args) throws IOException {
        Reader reader = read();
        rule(11, "classes: " + reader.classes, reader.classes.size() <= MOST_CLASSES);
        rule(11, "no methods found", reader.calls.size() > 16);
        for (String method : reader.calls.keySet()) {
            int deep = reader.deep(method, 1);
            rule(11, "calls from " + method + " go " + deep + " deep", deep <= MOST_DEEP);
        }
        System.out.println(looked + " looks at the rules, " + wrong + " faults");
        if (wrong != 0) {
            System.exit(1);
        }
    }
}
