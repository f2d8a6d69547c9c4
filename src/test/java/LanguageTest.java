import com.sun.source.tree.ClassTree;
import com.sun.source.tree.CompilationUnitTree;
import com.sun.source.tree.ImportTree;
import com.sun.source.tree.LineMap;
import com.sun.source.tree.MemberSelectTree;
import com.sun.source.tree.MethodInvocationTree;
import com.sun.source.tree.MethodTree;
import com.sun.source.tree.NewClassTree;
import com.sun.source.tree.Tree;
import com.sun.source.tree.VariableTree;
import com.sun.source.util.JavacTask;
import com.sun.source.util.SourcePositions;
import com.sun.source.util.TreeScanner;
import com.sun.source.util.Trees;
import java.io.File;
import java.lang.reflect.Constructor;
import java.lang.reflect.Field;
import java.lang.reflect.Method;
import java.lang.reflect.Modifier;
import java.util.ArrayList;
import java.util.Arrays;
import java.util.EnumSet;
import java.util.List;
import java.util.Map;
import java.util.Set;
import java.util.TreeMap;
import java.util.TreeSet;
import javax.tools.JavaCompiler;
import javax.tools.StandardJavaFileManager;
import javax.tools.ToolProvider;

/** The face as the document has it, and those rules of LANGUAGE.md that can be read off the program's text. */
public final class LanguageTest {
    private static final Check check = new Check();
    private static final String FACE = "row(int,int) lay(int,int,int) at(int,int) tear(int) copy(int,int,int,int,int) "
        + "mean(int) text(int,int) put(int,int,int) fault(int) delta(int) woman(int,int) mark(int,int) hem(int,int) "
        + "would(int,int) flood(int) move(int,int) dyke(int) tuck(int) undo(int) keep(int) on(int) know(int,int) "
        + "high(int) look(int,int) looks(int) line(int) kinds(int,int) test(int,int) whose(int) raise(int,int,int) "
        + "dry() least(int,int,int) duel(int,int) odds(int) mid() lots(int,int) asked() upper():long lower():long "
        + "count(int) finding() findings(int) digest():long";
    private static final Set<String> CALLS = Set.of("Math.min", "Math.max", "Integer.bitCount", "Arrays.fill",
        "System.arraycopy");
    private static final Set<Tree.Kind> NOT_HERE = EnumSet.of(Tree.Kind.THROW, Tree.Kind.TRY, Tree.Kind.CATCH,
        Tree.Kind.SYNCHRONIZED, Tree.Kind.ASSERT, Tree.Kind.LAMBDA_EXPRESSION, Tree.Kind.MEMBER_REFERENCE,
        Tree.Kind.INSTANCE_OF, Tree.Kind.WHILE_LOOP, Tree.Kind.DO_WHILE_LOOP, Tree.Kind.SWITCH_EXPRESSION,
        Tree.Kind.STRING_LITERAL, Tree.Kind.DOUBLE_LITERAL, Tree.Kind.FLOAT_LITERAL, Tree.Kind.ANNOTATION);

    public static void main(String[] args) throws Exception {
        methods();
        constants();
        for (Class<?> inside : HemLine.class.getDeclaredClasses()) {
            due(inside + " is private, static", Modifier.isPrivate(inside.getModifiers())
                && Modifier.isStatic(inside.getModifiers()));
            for (Method method : inside.getDeclaredMethods()) {
                due(method + " has no name of the face", !namesOfFace().contains(method.getName()));
            }
        }
        text();
        check.end();
    }

    private static void due(String what, boolean well) {
        check.due(what, well ? 1 : 0, 1);
    }

    private static Set<String> namesOfFace() {
        Set<String> names = new TreeSet<>();
        for (String call : FACE.split(" ")) {
            names.add(call.substring(0, call.indexOf('(')));
        }
        return names;
    }

    private static void methods() {
        Set<String> seen = new TreeSet<>();
        for (Method method : HemLine.class.getDeclaredMethods()) {
            String told = method.getName() + Arrays.toString(method.getParameterTypes())
                .replace('[', '(').replace(']', ')').replace(" ", "")
                + (method.getReturnType() == long.class ? ":long" : "");
            if (Modifier.isPublic(method.getModifiers())) {
                seen.add(told);
                due(told + " is no static one", !Modifier.isStatic(method.getModifiers()));
            } else {
                due(told + " is private", Modifier.isPrivate(method.getModifiers()));
                due(told + " has no name of the face", !namesOfFace().contains(method.getName()));
            }
        }
        due("the face is " + seen, seen.equals(new TreeSet<>(List.of(FACE.split(" ")))));
        Constructor<?>[] made = HemLine.class.getDeclaredConstructors();
        due("one public constructor", made.length == 1 && Modifier.isPublic(made[0].getModifiers())
            && made[0].getParameterCount() == 0);
        due("public, final", Modifier.isPublic(HemLine.class.getModifiers())
            && Modifier.isFinal(HemLine.class.getModifiers()));
    }

    private static void constants() throws Exception {
        int many = 0;
        for (Field field : HemLine.class.getDeclaredFields()) {
            if (Modifier.isStatic(field.getModifiers())) {
                due(field + " is final", Modifier.isFinal(field.getModifiers()));
            }
            if (!Modifier.isPrivate(field.getModifiers())) {
                many++;
                due(field + " is public, static", Modifier.isPublic(field.getModifiers())
                    && Modifier.isStatic(field.getModifiers()) && field.getType() == int.class);
            }
        }
        check.due("public constants", many, 6);
        int[] values = {HemLine.BAD, HemLine.FULL, HemLine.FINDING, HemLine.STATE, HemLine.SPENT, HemLine.NONE};
        due("their values", Arrays.equals(values, new int[] {-1, -2, -3, -4, -6, -9}));
    }

    private static void text() throws Exception {
        JavaCompiler compiler = ToolProvider.getSystemJavaCompiler();
        try (StandardJavaFileManager files = compiler.getStandardFileManager(null, null, null)) {
            JavacTask task = (JavacTask) compiler.getTask(null, files, null, List.of("-proc:none"), null,
                files.getJavaFileObjects(new File("src/main/java/HemLine.java")));
            SourcePositions places = Trees.instance(task).getSourcePositions();
            for (CompilationUnitTree unit : task.parse()) {
                new Rules(unit, places).scan(unit, null);
                Calls calls = new Calls();
                calls.scan(unit, null);
                calls.depths();
                check.due("classes at the top", unit.getTypeDecls().size(), 1);
                due("no package", unit.getPackageName() == null);
            }
        }
    }

    /** By names alone: which method calls which, those of the library, too. */
    private static final class Calls extends TreeScanner<Void, Void> {
        private static final int DEEPEST = 8;
        private final Map<String, Set<String>> calls = new TreeMap<>();
        private final Set<String> statics = new TreeSet<>();
        private String caller = "";

        @Override
        public Void visitMethod(MethodTree tree, Void none) {
            caller = tree.getName().toString();
            due("one method is called " + caller, caller.equals("<init>") || !calls.containsKey(caller));
            calls.computeIfAbsent(caller, name -> new TreeSet<>());
            if (tree.getModifiers().getFlags().contains(javax.lang.model.element.Modifier.STATIC)) {
                statics.add(caller);
            }
            return super.visitMethod(tree, none);
        }

        @Override
        public Void visitMethodInvocation(MethodInvocationTree tree, Void none) {
            String name = tree.getMethodSelect().toString();
            calls.get(caller).add(name.substring(name.lastIndexOf('.') + 1));
            return super.visitMethodInvocation(tree, none);
        }

        void depths() {
            for (String name : calls.keySet()) {
                int depth = depth(name, new ArrayList<>());
                due("calls from " + name + " on go deep: " + depth, depth <= DEEPEST);
                due(name + " calls itself: a static one", !calls.get(name).contains(name) || statics.contains(name));
            }
        }

        private int depth(String name, List<String> open) {
            due("calls go round: " + open + " " + name, !open.contains(name));
            int deepest = 0;
            if (!open.contains(name)) {
                open.add(name);
                for (String called : calls.getOrDefault(name, Set.of())) {
                    if (!called.equals(name)) {
                        deepest = Math.max(deepest, depth(called, open));
                    }
                }
                open.remove(open.size() - 1);
            }
            return 1 + deepest;
        }
    }

    private static final class Rules extends TreeScanner<Void, Void> {
        private final CompilationUnitTree unit;
        private final SourcePositions places;
        private final LineMap lines;
        private final List<String> classes = new ArrayList<>();
        private int depth;

        Rules(CompilationUnitTree unit, SourcePositions places) {
            this.unit = unit;
            this.places = places;
            this.lines = unit.getLineMap();
        }

        private long line(Tree tree) {
            return lines.getLineNumber(places.getStartPosition(unit, tree));
        }

        @Override
        public Void scan(Tree tree, Void none) {
            if (tree != null) {
                due(tree.getKind() + " in line " + line(tree), !NOT_HERE.contains(tree.getKind()));
            }
            return super.scan(tree, none);
        }

        @Override
        public Void visitImport(ImportTree tree, Void none) {
            due("import " + tree.getQualifiedIdentifier(), tree.getQualifiedIdentifier().toString()
                .equals("java.util.Arrays"));
            return super.visitImport(tree, none);
        }

        @Override
        public Void visitClass(ClassTree tree, Void none) {
            classes.add(tree.getSimpleName().toString());
            due("classes: " + classes, classes.size() <= 12);
            due(tree.getSimpleName() + " inside one at most", depth <= 1);
            int fields = 0;
            for (Tree member : tree.getMembers()) {
                due("a static block in line " + line(member), member.getKind() != Tree.Kind.BLOCK);
                if (member instanceof VariableTree v && !v.getModifiers().getFlags()
                    .contains(javax.lang.model.element.Modifier.STATIC)) {
                    fields++;
                }
            }
            due(tree.getSimpleName() + " has fields: " + fields, fields <= 20);
            depth++;
            super.visitClass(tree, none);
            depth--;
            return null;
        }

        @Override
        public Void visitMethod(MethodTree tree, Void none) {
            long many = lines.getLineNumber(places.getEndPosition(unit, tree)) - line(tree) + 1;
            due(tree.getName() + " has lines: " + many, many <= 60);
            due(tree.getName() + " has parameters", tree.getParameters().size() <= 7);
            return super.visitMethod(tree, none);
        }

        @Override
        public Void visitNewClass(NewClassTree tree, Void none) {
            due("an anonymous class in line " + line(tree), tree.getClassBody() == null);
            return super.visitNewClass(tree, none);
        }

        @Override
        public Void visitMemberSelect(MemberSelectTree tree, Void none) {
            String from = tree.getExpression().toString();
            if (List.of("Math", "Integer", "Long", "Arrays", "System", "String").contains(from)) {
                due(tree + " is of the library", CALLS.contains(tree.toString()));
            }
            return super.visitMemberSelect(tree, none);
        }
    }
}
