import com.sun.source.tree.AssignmentTree;
import com.sun.source.tree.BinaryTree;
import com.sun.source.tree.BlockTree;
import com.sun.source.tree.CompilationUnitTree;
import com.sun.source.tree.ConditionalExpressionTree;
import com.sun.source.tree.ExpressionStatementTree;
import com.sun.source.tree.IdentifierTree;
import com.sun.source.tree.IfTree;
import com.sun.source.tree.LiteralTree;
import com.sun.source.tree.MemberSelectTree;
import com.sun.source.tree.MethodInvocationTree;
import com.sun.source.tree.MethodTree;
import com.sun.source.tree.ReturnTree;
import com.sun.source.tree.StatementTree;
import com.sun.source.tree.Tree;
import com.sun.source.tree.TypeCastTree;
import com.sun.source.tree.UnaryTree;
import com.sun.source.tree.VariableTree;
import com.sun.source.util.JavacTask;
import com.sun.source.util.SourcePositions;
import com.sun.source.util.TreeScanner;
import com.sun.source.util.Trees;
import java.io.ByteArrayOutputStream;
import java.io.File;
import java.io.InputStream;
import java.io.OutputStream;
import java.io.PrintStream;
import java.net.URI;
import java.nio.file.Files;
import java.nio.file.Path;
import java.util.ArrayList;
import java.util.Arrays;
import java.util.HashMap;
import java.util.LinkedHashMap;
import java.util.List;
import java.util.Map;
import java.util.concurrent.ExecutorService;
import java.util.concurrent.Executors;
import java.util.concurrent.Future;
import javax.tools.FileObject;
import javax.tools.ForwardingJavaFileManager;
import javax.tools.JavaCompiler;
import javax.tools.JavaFileManager;
import javax.tools.JavaFileObject;
import javax.tools.SimpleJavaFileObject;
import javax.tools.StandardJavaFileManager;
import javax.tools.ToolProvider;

/**
 * Breaks the program in one place at a time and tells which of these broken ones the tests named by the arguments (all
 * BoundsTests without any) do not find. Run by hand, not by .ci/run: see README.md.
 */
public final class Mutants {
    private static final Path MAIN = Path.of("src/main/java/HemLine.java");
    private static final Path TESTS = Path.of("src/test/java");
    private static final long PATIENCE_MS = 20000;
    private static final List<String> ANSWERS = List.of("BAD", "FULL", "STATE", "SPENT", "NONE");
    private static final List<String> FINDINGS = List.of("NOTHING", "BEYOND", "UNLIKE", "NOUGHT", "SIZE");
    private static final Map<Tree.Kind, List<String>> OTHER_SIGNS = otherSigns();

    private static Map<Tree.Kind, List<String>> otherSigns() {
        Map<Tree.Kind, List<String>> signs = new HashMap<>();
        signs.put(Tree.Kind.LESS_THAN, List.of("<=", ">", "!="));
        signs.put(Tree.Kind.LESS_THAN_EQUAL, List.of("<", ">", "=="));
        signs.put(Tree.Kind.GREATER_THAN, List.of(">=", "<", "!="));
        signs.put(Tree.Kind.GREATER_THAN_EQUAL, List.of(">", "<", "=="));
        signs.put(Tree.Kind.EQUAL_TO, List.of("!=", "<=", ">="));
        signs.put(Tree.Kind.NOT_EQUAL_TO, List.of("==", "<", ">"));
        signs.put(Tree.Kind.CONDITIONAL_AND, List.of("||"));
        signs.put(Tree.Kind.CONDITIONAL_OR, List.of("&&"));
        signs.put(Tree.Kind.PLUS, List.of("-"));
        signs.put(Tree.Kind.MINUS, List.of("+"));
        signs.put(Tree.Kind.MULTIPLY, List.of("+"));
        signs.put(Tree.Kind.DIVIDE, List.of("%", "*"));
        signs.put(Tree.Kind.REMAINDER, List.of("/", "*"));
        signs.put(Tree.Kind.AND, List.of("|"));
        signs.put(Tree.Kind.LEFT_SHIFT, List.of("+"));
        signs.put(Tree.Kind.RIGHT_SHIFT, List.of("+"));
        return signs;
    }

    /** A place of the text, and what stands there instead. */
    private record Change(int from, int to, String instead, long line) {
        String on(String text) {
            return text.substring(0, from) + instead + text.substring(to);
        }

        String told(String text) {
            return "line " + line + ": " + text.substring(from, to).replaceAll("\\s+", " ") + "  ->  "
                + instead.replaceAll("\\s+", " ");
        }
    }

    public static void main(String[] args) throws Exception {
        String text = Files.readString(MAIN);
        List<Change> changes = changesOf(text);
        Path tests = Files.createTempDirectory("mutants");
        List<String> names = args.length > 0 ? List.of(args) : boundsTests();
        compileTests(tests);
        PrintStream out = System.out;
        System.setOut(new PrintStream(OutputStream.nullOutputStream()));
        Map<String, byte[]> whole = compiled(text);
        out.println("as it is: " + verdict(whole, tests, names));
        for (String name : allTests()) {
            out.println(name + " with free answers behind call 512: "
                + verdict(compiled(freeBehind512(text)), tests, List.of(name)));
        }
        ExecutorService pool = Executors.newFixedThreadPool(Runtime.getRuntime().availableProcessors(), r -> {
            Thread thread = new Thread(null, r, "mutants", 1 << 24);
            thread.setDaemon(true);
            return thread;
        });
        Map<Change, Future<String>> verdicts = new LinkedHashMap<>();
        for (Change change : changes) {
            verdicts.put(change, pool.submit(() -> verdict(compiled(change.on(text)), tests, names)));
        }
        int found = 0, none = 0, left = 0;
        for (Map.Entry<Change, Future<String>> entry : verdicts.entrySet()) {
            String verdict = entry.getValue().get();
            if (verdict.equals("no program")) {
                none++;
            } else if (verdict.equals("not found")) {
                left++;
                out.println("NOT FOUND " + entry.getKey().told(text));
            } else {
                found++;
            }
        }
        out.println(found + " found, " + left + " not found, " + none + " are no programs");
        System.exit(0);
    }

    private static List<String> boundsTests() {
        return testsOf("BoundsTest.java");
    }

    private static List<String> allTests() {
        return testsOf("Test.java");
    }

    private static List<String> testsOf(String end) {
        List<String> names = new ArrayList<>();
        for (String name : TESTS.toFile().list()) {
            if (name.endsWith(end)) {
                names.add(name.replace(".java", ""));
            }
        }
        names.sort(null);
        return names;
    }

    /** No test may ask anything of what a later call answers; digest() itself makes eleven calls of count(). */
    private static String freeBehind512(String text) {
        return text.replaceFirst("public final class HemLine \\{", "$0 private int callsMade;")
            .replaceAll("\n    public (int|long) \\w+\\([^)]*\\) \\{", "$0 if (++callsMade > 512) { return 77; }")
            .replaceFirst("long h = 17;", "$0 callsMade -= 11;");
    }

    // ---- running

    private static void compileTests(Path to) throws Exception {
        List<String> args = new ArrayList<>(List.of("-d", to.toString(), MAIN.toString()));
        for (File file : TESTS.toFile().listFiles()) {
            args.add(file.getPath());
        }
        int answer = ToolProvider.getSystemJavaCompiler().run(null, null, null, args.toArray(new String[0]));
        if (answer != 0) {
            throw new IllegalStateException("the tests are no programs");
        }
    }

    private static String verdict(Map<String, byte[]> classes, Path tests, List<String> names) throws Exception {
        if (classes == null) {
            return "no program";
        }
        for (String name : names) {
            String[] told = {"endless"};
            Thread thread = new Thread(null, () -> told[0] = outcome(classes, tests, name), "mutant", 1 << 24);
            thread.setDaemon(true);
            thread.start();
            thread.join(PATIENCE_MS);
            if (!told[0].equals("passed")) {
                return told[0];
            }
        }
        return "not found";
    }

    private static String outcome(Map<String, byte[]> classes, Path tests, String name) {
        try {
            new Loader(classes, tests).loadClass(name).getMethod("main", String[].class)
                .invoke(null, (Object) new String[0]);
            return "passed";
        } catch (ReflectiveOperationException | RuntimeException | Error e) {
            return "failed " + name;
        }
    }

    /** Each broken program has the tests of its own, as they hold what they have counted. */
    private static final class Loader extends ClassLoader {
        private final Map<String, byte[]> classes;
        private final Path tests;

        Loader(Map<String, byte[]> classes, Path tests) {
            super(ClassLoader.getPlatformClassLoader());
            this.classes = classes;
            this.tests = tests;
        }

        @Override
        protected Class<?> findClass(String name) throws ClassNotFoundException {
            byte[] bytes = classes.get(name);
            if (bytes == null) {
                try (InputStream in = Files.newInputStream(tests.resolve(name + ".class"))) {
                    bytes = in.readAllBytes();
                } catch (java.io.IOException e) {
                    throw new ClassNotFoundException(name, e);
                }
            }
            return defineClass(name, bytes, 0, bytes.length);
        }
    }

    private static Map<String, byte[]> compiled(String text) throws Exception {
        JavaCompiler compiler = ToolProvider.getSystemJavaCompiler();
        Map<String, ByteArrayOutputStream> classes = new HashMap<>();
        try (StandardJavaFileManager files = compiler.getStandardFileManager(d -> { }, null, null)) {
            JavaFileManager kept = new ForwardingJavaFileManager<JavaFileManager>(files) {
                @Override
                public JavaFileObject getJavaFileForOutput(Location location, String name, JavaFileObject.Kind kind,
                        FileObject sibling) {
                    return new SimpleJavaFileObject(URI.create("mem:///" + name + ".class"), kind) {
                        @Override
                        public OutputStream openOutputStream() {
                            ByteArrayOutputStream out = new ByteArrayOutputStream();
                            classes.put(name, out);
                            return out;
                        }
                    };
                }
            };
            JavaFileObject source = new SimpleJavaFileObject(URI.create("mem:///HemLine.java"),
                JavaFileObject.Kind.SOURCE) {
                @Override
                public CharSequence getCharContent(boolean ignore) {
                    return text;
                }
            };
            if (!compiler.getTask(null, kept, d -> { }, List.of("-proc:none", "-nowarn"), null, List.of(source)).call()) {
                return null;
            }
        }
        Map<String, byte[]> bytes = new HashMap<>();
        classes.forEach((name, out) -> bytes.put(name, out.toByteArray()));
        return bytes;
    }

    // ---- what is broken

    private static List<Change> changesOf(String text) throws Exception {
        JavaCompiler compiler = ToolProvider.getSystemJavaCompiler();
        List<Change> changes = new ArrayList<>();
        try (StandardJavaFileManager files = compiler.getStandardFileManager(null, null, null)) {
            JavacTask task = (JavacTask) compiler.getTask(null, files, null, List.of("-proc:none"), null,
                files.getJavaFileObjects(MAIN.toFile()));
            SourcePositions places = Trees.instance(task).getSourcePositions();
            for (CompilationUnitTree unit : task.parse()) {
                new Breaker(unit, places, text, changes).scan(unit, null);
            }
        }
        return changes;
    }

    private static final class Breaker extends TreeScanner<Void, Void> {
        private final CompilationUnitTree unit;
        private final SourcePositions places;
        private final String text;
        private final List<Change> changes;

        Breaker(CompilationUnitTree unit, SourcePositions places, String text, List<Change> changes) {
            this.unit = unit;
            this.places = places;
            this.text = text;
            this.changes = changes;
        }

        private int from(Tree tree) {
            return (int) places.getStartPosition(unit, tree);
        }

        private int to(Tree tree) {
            return (int) places.getEndPosition(unit, tree);
        }

        private String textOf(Tree tree) {
            return text.substring(from(tree), to(tree));
        }

        private void change(int from, int to, String instead) {
            if (!text.substring(from, to).equals(instead)) {
                changes.add(new Change(from, to, instead, unit.getLineMap().getLineNumber(from)));
            }
        }

        private void change(Tree tree, String instead) {
            change(from(tree), to(tree), instead);
        }

        @Override
        public Void visitBinary(BinaryTree tree, Void none) {
            int left = to(tree.getLeftOperand()), right = from(tree.getRightOperand());
            for (String sign : OTHER_SIGNS.getOrDefault(tree.getKind(), List.of())) {
                change(left, right, " " + sign + " ");
            }
            if (tree.getKind() == Tree.Kind.CONDITIONAL_AND || tree.getKind() == Tree.Kind.CONDITIONAL_OR) {
                change(tree, textOf(tree.getLeftOperand()));
                change(tree, textOf(tree.getRightOperand()));
            }
            return super.visitBinary(tree, none);
        }

        @Override
        public Void visitLiteral(LiteralTree tree, Void none) {
            if (tree.getKind() == Tree.Kind.INT_LITERAL || tree.getKind() == Tree.Kind.LONG_LITERAL) {
                change(tree, "(" + textOf(tree) + " + 1)");
                change(tree, "(" + textOf(tree) + " - 1)");
            } else if (tree.getKind() == Tree.Kind.CHAR_LITERAL) {
                change(tree, "(char) (" + textOf(tree) + " + 1)");
                change(tree, "(char) (" + textOf(tree) + " - 1)");
            } else if (tree.getKind() == Tree.Kind.BOOLEAN_LITERAL) {
                change(tree, textOf(tree).equals("true") ? "false" : "true");
            }
            return super.visitLiteral(tree, none);
        }

        @Override
        public Void visitIdentifier(IdentifierTree tree, Void none) {
            String name = tree.getName().toString();
            for (List<String> names : List.of(ANSWERS, FINDINGS)) {
                if (names.contains(name)) {
                    change(tree, names.get((names.indexOf(name) + 1) % names.size()));
                }
            }
            if (name.matches("[A-Z][A-Z_]+") && !ANSWERS.contains(name) && !FINDINGS.contains(name)) {
                change(tree, "(" + name + " + 1)");
                change(tree, "(" + name + " - 1)");
            }
            return super.visitIdentifier(tree, none);
        }

        @Override
        public Void visitMemberSelect(MemberSelectTree tree, Void none) {
            String told = tree.toString();
            if (told.equals("Math.max")) {
                change(tree, "Math.min");
            } else if (told.equals("Math.min")) {
                change(tree, "Math.max");
            }
            return super.visitMemberSelect(tree, none);
        }

        @Override
        public Void visitMethodInvocation(MethodInvocationTree tree, Void none) {
            if (tree.getMethodSelect().toString().startsWith("Math.")) {
                change(tree, textOf(tree.getArguments().get(0)));
                change(tree, textOf(tree.getArguments().get(1)));
            }
            return super.visitMethodInvocation(tree, none);
        }

        @Override
        public Void visitUnary(UnaryTree tree, Void none) {
            String inner = textOf(tree.getExpression());
            switch (tree.getKind()) {
                case LOGICAL_COMPLEMENT: case UNARY_MINUS: change(tree, inner); break;
                case POSTFIX_INCREMENT: change(tree, inner + " += 2"); break;
                case POSTFIX_DECREMENT: change(tree, inner + " -= 2"); break;
                default: break;
            }
            return super.visitUnary(tree, none);
        }

        @Override
        public Void visitTypeCast(TypeCastTree tree, Void none) {
            change(tree, textOf(tree.getExpression()));
            return super.visitTypeCast(tree, none);
        }

        @Override
        public Void visitConditionalExpression(ConditionalExpressionTree tree, Void none) {
            change(tree, "(" + textOf(tree.getTrueExpression()) + ")");
            change(tree, "(" + textOf(tree.getFalseExpression()) + ")");
            return super.visitConditionalExpression(tree, none);
        }

        @Override
        public Void visitIf(IfTree tree, Void none) {
            change(tree.getCondition(), "(1 > 2)");
            change(tree.getCondition(), "(2 > 1)");
            return super.visitIf(tree, none);
        }

        @Override
        public Void visitExpressionStatement(ExpressionStatementTree tree, Void none) {
            if (!(tree.getExpression() instanceof UnaryTree) || textOf(tree).endsWith(";")) {
                change(tree, ";");
            }
            return super.visitExpressionStatement(tree, none);
        }

        @Override
        public Void visitAssignment(AssignmentTree tree, Void none) {
            change(tree.getExpression(), "0");
            return super.visitAssignment(tree, none);
        }

        @Override
        public Void visitReturn(ReturnTree tree, Void none) {
            if (tree.getExpression() != null && tree.getExpression().getKind() != Tree.Kind.BOOLEAN_LITERAL) {
                change(tree.getExpression(), "0");
            }
            return super.visitReturn(tree, none);
        }

        @Override
        public Void visitVariable(VariableTree tree, Void none) {
            if (tree.getType() != null && tree.getType().toString().equals("long")) {
                change(tree.getType(), "int");
            }
            return super.visitVariable(tree, none);
        }

        @Override
        public Void visitMethod(MethodTree tree, Void none) {
            if (tree.getReturnType() != null && tree.getReturnType().toString().equals("long")) {
                change(tree.getReturnType(), "int");
            }
            return super.visitMethod(tree, none);
        }

        /** Refusals beside one another change places, also the first with the third. */
        @Override
        public Void visitBlock(BlockTree tree, Void none) {
            List<? extends StatementTree> all = tree.getStatements();
            for (int gap = 1; gap <= 3; gap++) {
                for (int k = 0; k + gap < all.size(); k++) {
                    StatementTree a = all.get(k), b = all.get(k + gap);
                    if (a instanceof IfTree && b instanceof IfTree) {
                        change(from(a), to(b), textOf(b) + text.substring(to(a), from(b)) + textOf(a));
                    }
                }
            }
            return super.visitBlock(tree, none);
        }
    }
}
