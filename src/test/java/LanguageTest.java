import com.sun.source.tree.ArrayAccessTree;
import com.sun.source.tree.BinaryTree;
import com.sun.source.tree.ClassTree;
import com.sun.source.tree.CompilationUnitTree;
import com.sun.source.tree.ExpressionTree;
import com.sun.source.tree.ForLoopTree;
import com.sun.source.tree.IdentifierTree;
import com.sun.source.tree.ImportTree;
import com.sun.source.tree.LiteralTree;
import com.sun.source.tree.MethodInvocationTree;
import com.sun.source.tree.MethodTree;
import com.sun.source.tree.NewArrayTree;
import com.sun.source.tree.NewClassTree;
import com.sun.source.tree.Tree;
import com.sun.source.tree.TypeCastTree;
import com.sun.source.tree.VariableTree;
import com.sun.source.util.JavacTask;
import com.sun.source.util.TreePath;
import com.sun.source.util.TreePathScanner;
import com.sun.source.util.Trees;
import java.io.File;
import java.lang.reflect.Array;
import java.lang.reflect.Constructor;
import java.lang.reflect.Field;
import java.lang.reflect.Method;
import java.lang.reflect.Modifier;
import java.util.ArrayList;
import java.util.Collections;
import java.util.EnumSet;
import java.util.IdentityHashMap;
import java.util.List;
import java.util.Map;
import java.util.Set;
import java.util.TreeMap;
import java.util.TreeSet;
import java.util.regex.Matcher;
import java.util.regex.Pattern;
import javax.lang.model.element.Element;
import javax.lang.model.element.ElementKind;
import javax.lang.model.element.VariableElement;
import javax.tools.JavaCompiler;
import javax.tools.StandardJavaFileManager;
import javax.tools.ToolProvider;

/** The public face as the document shows it, nothing else public, and the rules of LANGUAGE.md by their numbers. */
public final class LanguageTest {
    private static final Check check = new Check();
    private static final String MAIN = "src/main/java/HemLine.java";
    /** Rule 4: of what the library has, what the program uses of it. */
    private static final Set<String> LIBRARY = Set.of("Math.min", "Math.max", "Integer.bitCount", "Arrays.fill",
        "System.arraycopy");
    /** Rules 2, 6, 9, 10: these alone may stand in the program. */
    private static final Set<Tree.Kind> HERE = EnumSet.of(Tree.Kind.COMPILATION_UNIT, Tree.Kind.IMPORT, Tree.Kind.CLASS,
        Tree.Kind.METHOD, Tree.Kind.VARIABLE, Tree.Kind.MODIFIERS, Tree.Kind.PRIMITIVE_TYPE, Tree.Kind.ARRAY_TYPE,
        Tree.Kind.IDENTIFIER, Tree.Kind.MEMBER_SELECT, Tree.Kind.METHOD_INVOCATION, Tree.Kind.NEW_CLASS,
        Tree.Kind.NEW_ARRAY, Tree.Kind.ARRAY_ACCESS, Tree.Kind.TYPE_CAST, Tree.Kind.PARENTHESIZED, Tree.Kind.BLOCK,
        Tree.Kind.EXPRESSION_STATEMENT, Tree.Kind.IF, Tree.Kind.FOR_LOOP, Tree.Kind.SWITCH, Tree.Kind.CASE,
        Tree.Kind.BREAK, Tree.Kind.RETURN, Tree.Kind.CONDITIONAL_EXPRESSION, Tree.Kind.ASSIGNMENT,
        Tree.Kind.PLUS_ASSIGNMENT, Tree.Kind.MINUS_ASSIGNMENT, Tree.Kind.OR_ASSIGNMENT, Tree.Kind.AND_ASSIGNMENT,
        Tree.Kind.POSTFIX_INCREMENT, Tree.Kind.POSTFIX_DECREMENT, Tree.Kind.UNARY_MINUS, Tree.Kind.LOGICAL_COMPLEMENT,
        Tree.Kind.CONDITIONAL_AND, Tree.Kind.CONDITIONAL_OR, Tree.Kind.PLUS, Tree.Kind.MINUS, Tree.Kind.MULTIPLY,
        Tree.Kind.DIVIDE, Tree.Kind.REMAINDER, Tree.Kind.AND, Tree.Kind.LEFT_SHIFT, Tree.Kind.RIGHT_SHIFT,
        Tree.Kind.EQUAL_TO, Tree.Kind.NOT_EQUAL_TO, Tree.Kind.LESS_THAN, Tree.Kind.LESS_THAN_EQUAL,
        Tree.Kind.GREATER_THAN, Tree.Kind.GREATER_THAN_EQUAL, Tree.Kind.INT_LITERAL, Tree.Kind.LONG_LITERAL,
        Tree.Kind.CHAR_LITERAL, Tree.Kind.BOOLEAN_LITERAL, Tree.Kind.NULL_LITERAL);

    public static void main(String[] args) throws Exception {
        calls();
        constants();
        nothingElse();
        staticFields(HemLine.class);
        for (Class<?> inside : HemLine.class.getDeclaredClasses()) {
            inside(inside);
            staticFields(inside);
        }
        text();
        room();
        check.end();
    }

    private static void due(String what, boolean well) {
        check.due(what, well ? 1 : 0, 1);
    }

    // ---- the face, rule 1

    /** Of a line of the face: what it answers, its name, the types that it takes. */
    private static final Pattern CALL = Pattern.compile("public (int|long) (\\w+)\\((.*)\\)");

    private static Set<String> callsOfFace() {
        Set<String> calls = new TreeSet<>();
        for (String member : Doc.face()) {
            Matcher call = CALL.matcher(member);
            if (call.matches()) {
                calls.add(call.group(1) + " " + call.group(2) + "(" + call.group(3).replaceAll(" \\w+(, |$)", ",")
                    + ")");
            }
        }
        return calls;
    }

    private static Set<String> namesOfFace() {
        Set<String> names = new TreeSet<>();
        for (String call : callsOfFace()) {
            names.add(call.substring(call.indexOf(' ') + 1, call.indexOf('(')));
        }
        return names;
    }

    private static void calls() {
        Set<String> seen = new TreeSet<>();
        for (Method method : HemLine.class.getDeclaredMethods()) {
            if (Modifier.isPublic(method.getModifiers())) {
                StringBuilder types = new StringBuilder();
                for (Class<?> type : method.getParameterTypes()) {
                    types.append(type.getName()).append(',');
                }
                seen.add(method.getReturnType() + " " + method.getName() + "(" + types + ")");
                due("rule 1: " + method + " belongs to an object", !Modifier.isStatic(method.getModifiers()));
            }
        }
        check.due("calls of the face", callsOfFace().size(), 43);
        due("the face: " + callsOfFace() + " is " + seen, seen.equals(callsOfFace()));
        due("the face has a constructor", Doc.face().contains("public HemLine()"));
        Constructor<?>[] made = HemLine.class.getDeclaredConstructors();
        due("rule 1: one public constructor", made.length == 1 && Modifier.isPublic(made[0].getModifiers())
            && made[0].getParameterCount() == 0);
        due("rule 1: public, final", HemLine.class.getModifiers() == (Modifier.PUBLIC | Modifier.FINAL));
    }

    private static void constants() throws Exception {
        int many = 0;
        for (String member : Doc.face()) {
            if (!member.startsWith("public static final int ")) {
                continue;
            }
            for (String constant : member.substring("public static final int ".length()).split(", ")) {
                many++;
                Field field = HemLine.class.getDeclaredField(constant.substring(0, constant.indexOf(' ')));
                due(field + " is one of the face", field.getType() == int.class
                    && field.getModifiers() == (Modifier.PUBLIC | Modifier.STATIC | Modifier.FINAL));
                check.due(field.getName(), field.getInt(null), Integer.parseInt(constant.replaceAll(".* = ", "")));
            }
        }
        check.due("constants of the face", many, 6);
    }

    private static void nothingElse() {
        int constants = 0;
        for (Field field : HemLine.class.getDeclaredFields()) {
            boolean constant = Modifier.isPublic(field.getModifiers()) && Modifier.isStatic(field.getModifiers());
            constants += constant ? 1 : 0;
            due("rule 1: " + field + " is private", constant || Modifier.isPrivate(field.getModifiers()));
        }
        check.due("rule 1: public constants", constants, 6);
        for (Method method : HemLine.class.getDeclaredMethods()) {
            if (!Modifier.isPublic(method.getModifiers())) {
                due("rule 1: " + method + " is private", Modifier.isPrivate(method.getModifiers()));
                due("rule 1: " + method + " has no name of the face", !namesOfFace().contains(method.getName()));
            }
        }
        due("rule 1: nothing is inherited", HemLine.class.getSuperclass() == Object.class
            && HemLine.class.getInterfaces().length == 0);
    }

    // ---- rules 2, 5

    private static void inside(Class<?> inside) {
        due("rule 2: " + inside + " is static, not public", Modifier.isStatic(inside.getModifiers())
            && !Modifier.isPublic(inside.getModifiers()) && !Modifier.isProtected(inside.getModifiers()));
        check.due("rule 2: classes inside " + inside, inside.getDeclaredClasses().length, 0);
        for (Method method : inside.getDeclaredMethods()) {
            due("rule 1: " + method + " has no name of the face", !namesOfFace().contains(method.getName()));
            due("rule 6: " + method, !List.of("equals", "hashCode", "toString").contains(method.getName()));
        }
    }

    private static void staticFields(Class<?> of) {
        for (Field field : of.getDeclaredFields()) {
            if (Modifier.isStatic(field.getModifiers())) {
                due("rule 5: " + field + " is a final number", Modifier.isFinal(field.getModifiers())
                    && (field.getType() == int.class || field.getType() == long.class));
            }
        }
    }

    // ---- rule 12: no call makes an object (see made()), so that this is all that an object of the class needs

    private static void room() throws Exception {
        Set<Object> seen = Collections.newSetFromMap(new IdentityHashMap<>());
        int places = placesOf(new HemLine(), seen);
        due("rule 12: objects, arrays: " + seen.size(), seen.size() <= 100);
        due("rule 12: fields, elements: " + places, places <= 2500);
    }

    /** How many fields and elements it has, with all that is reached from it. */
    private static int placesOf(Object object, Set<Object> seen) throws Exception {
        if (object == null || !seen.add(object)) {
            return 0;
        }
        int places = 0;
        if (object.getClass().isArray()) {
            int length = Array.getLength(object);
            for (int k = 0; k < length && object instanceof Object[] objects; k++) {
                places += placesOf(objects[k], seen);
            }
            return places + length;
        }
        for (Field field : object.getClass().getDeclaredFields()) {
            if (!Modifier.isStatic(field.getModifiers())) {
                places++;
                field.setAccessible(true);
                places += field.getType().isPrimitive() ? 0 : placesOf(field.get(object), seen);
            }
        }
        return places;
    }

    // ---- the text

    private static void text() throws Exception {
        due("rule 1: HemLine.java is all", new File("src/main/java").list().length == 1);
        JavaCompiler compiler = ToolProvider.getSystemJavaCompiler();
        try (StandardJavaFileManager files = compiler.getStandardFileManager(null, null, null)) {
            JavacTask task = (JavacTask) compiler.getTask(null, files, null, List.of("-proc:none"), null,
                files.getJavaFileObjects(new File(MAIN)));
            Trees trees = Trees.instance(task);
            for (CompilationUnitTree unit : task.parse()) {
                task.analyze();
                Rules rules = new Rules(unit, trees);
                rules.scan(new TreePath(unit), null);
                rules.depths();
                check.due("rule 1: classes at the top", unit.getTypeDecls().size(), 1);
                due("rule 1: no package", unit.getPackageName() == null);
                check.due("rule 4: imports", unit.getImports().size(), 1);
            }
        }
    }

    private static final class Rules extends TreePathScanner<Void, Void> {
        private static final int DEEPEST = 8;
        private final CompilationUnitTree unit;
        private final Trees trees;
        private final List<String> classes = new ArrayList<>();
        /** Which method calls which; one name is one method. */
        private final Map<String, Set<String>> calls = new TreeMap<>();
        private final Set<String> privateStatics = new TreeSet<>();

        Rules(CompilationUnitTree unit, Trees trees) {
            this.unit = unit;
            this.trees = trees;
        }

        private String at(Tree tree) {
            return " in line " + unit.getLineMap().getLineNumber(trees.getSourcePositions().getStartPosition(unit, tree));
        }

        private Element element() {
            return trees.getElement(getCurrentPath());
        }

        /** The method or constructor around what is looked at; null: a field's initialiser. */
        private MethodTree around() {
            for (TreePath path = getCurrentPath(); path != null; path = path.getParentPath()) {
                if (path.getLeaf() instanceof MethodTree method) {
                    return method;
                }
            }
            return null;
        }

        @Override
        public Void scan(Tree tree, Void none) {
            if (tree != null) {
                due("rules 2, 6, 9, 10: " + tree.getKind() + at(tree), HERE.contains(tree.getKind()));
            }
            return super.scan(tree, none);
        }

        @Override
        public Void visitImport(ImportTree tree, Void none) {
            due("rule 4: " + tree, tree.getQualifiedIdentifier().toString().equals("java.util.Arrays"));
            return null;
        }

        @Override
        public Void visitClass(ClassTree tree, Void none) {
            classes.add(tree.getSimpleName().toString());
            due("rule 11: classes: " + classes, classes.size() <= 12);
            Tree parent = getCurrentPath().getParentPath().getLeaf();
            due("rule 2: " + tree.getSimpleName() + " is no local, no anonymous one", parent == unit
                || parent instanceof ClassTree);
            int fields = 0;
            for (Tree member : tree.getMembers()) {
                due("rule 5: no block of " + tree.getSimpleName() + at(member), member.getKind() != Tree.Kind.BLOCK);
                if (member instanceof VariableTree v && !v.getModifiers().getFlags()
                    .contains(javax.lang.model.element.Modifier.STATIC)) {
                    fields++;
                }
            }
            due("rule 11: " + tree.getSimpleName() + " has fields: " + fields, fields <= 20);
            due("rule 3: " + tree.getSimpleName() + " stands alone", tree.getExtendsClause() == null
                && tree.getImplementsClause().isEmpty() && tree.getTypeParameters().isEmpty());
            return super.visitClass(tree, none);
        }

        @Override
        public Void visitVariable(VariableTree tree, Void none) {
            String type = tree.getType().toString(), own = type.replace("[]", "");
            due("rule 3: " + type + at(tree), Set.of("int", "long", "boolean", "int[]", "int[][]").contains(type)
                || !type.endsWith("[][]") && isOwnClass(own));
            if (tree.getModifiers().getFlags().contains(javax.lang.model.element.Modifier.STATIC)) {
                due("rule 5: " + tree.getName() + " is a constant",
                    ((VariableElement) element()).getConstantValue() != null);
            }
            return super.visitVariable(tree, none);
        }

        private static boolean isOwnClass(String name) {
            for (Class<?> inside : HemLine.class.getDeclaredClasses()) {
                if (inside.getSimpleName().equals(name)) {
                    return true;
                }
            }
            return false;
        }

        @Override
        public Void visitMethod(MethodTree tree, Void none) {
            String name = tree.getName().toString();
            long from = trees.getSourcePositions().getStartPosition(unit, tree);
            long to = trees.getSourcePositions().getEndPosition(unit, tree);
            long many = to < 0 ? 1 : unit.getLineMap().getLineNumber(to) - unit.getLineMap().getLineNumber(from) + 1;
            due("rule 11: " + name + " has lines: " + many, many <= 60);
            due("rule 11: " + name + " has parameters", tree.getParameters().size() <= 7);
            due("one method is called " + name, name.equals("<init>") || !calls.containsKey(name));
            calls.computeIfAbsent(name, of -> new TreeSet<>());
            Set<javax.lang.model.element.Modifier> flags = tree.getModifiers().getFlags();
            if (flags.contains(javax.lang.model.element.Modifier.STATIC)
                && (flags.contains(javax.lang.model.element.Modifier.PRIVATE))) {
                privateStatics.add(name);
            }
            return super.visitMethod(tree, none);
        }

        @Override
        public Void visitMethodInvocation(MethodInvocationTree tree, Void none) {
            Element called = element();
            String owner = called.getEnclosingElement().toString();
            boolean own = owner.equals("HemLine") || owner.startsWith("HemLine.");
            if (called.getKind() == ElementKind.METHOD) {
                due("rule 4: " + tree + at(tree), own || LIBRARY.contains(tree.getMethodSelect().toString()));
            }
            if (around() != null && own) {
                calls.get(around().getName().toString()).add(called.getSimpleName().toString());
            }
            return super.visitMethodInvocation(tree, none);
        }

        // ---- rule 7

        /** An index is below the array's length, or was said to be a number of one, in a test of the same method. */
        @Override
        public Void visitArrayAccess(ArrayAccessTree tree, Void none) {
            String body = String.valueOf(around()), i = tree.getIndex().toString(), cells = tree.getExpression().toString();
            due("rule 7: " + tree + at(tree), body.contains(i + " < " + cells + ".length")
                || body.contains("isNumber(" + i + ") ? " + tree));
            return super.visitArrayAccess(tree, none);
        }

        @Override
        public Void visitBinary(BinaryTree tree, Void none) {
            if (tree.getKind() == Tree.Kind.DIVIDE || tree.getKind() == Tree.Kind.REMAINDER) {
                String divisor = Pattern.quote(tree.getRightOperand().toString());
                due("rule 7: the divisor of " + tree + at(tree), isConstantAboveNought(tree.getRightOperand())
                    || Pattern.compile(divisor + " (<=|>|==) [01]").matcher(String.valueOf(around())).find());
            }
            return super.visitBinary(tree, none);
        }

        private boolean isConstantAboveNought(ExpressionTree tree) {
            if (tree instanceof LiteralTree literal) {
                return literal.getValue() instanceof Integer v && v > 0;
            }
            if (tree.getKind() == Tree.Kind.PARENTHESIZED) {
                return tree.toString().equals("(TOP_HEIGHT + 1)");
            }
            Element element = trees.getElement(new TreePath(getCurrentPath(), tree));
            return element instanceof VariableElement v && v.getConstantValue() instanceof Integer n && n > 0;
        }

        @Override
        public Void visitTypeCast(TypeCastTree tree, Void none) {
            due("rule 7: " + tree + " is one of numbers" + at(tree), tree.getType().getKind() == Tree.Kind.PRIMITIVE_TYPE);
            return super.visitTypeCast(tree, none);
        }

        // ---- rules 8, 11

        void depths() {
            for (String name : calls.keySet()) {
                int depth = depth(name, new ArrayList<>());
                due("rule 11: calls from " + name + " on go deep: " + depth, depth <= DEEPEST);
                due("rule 8: " + name + " calls itself, private and static",
                    !calls.get(name).contains(name) || privateStatics.contains(name));
            }
        }

        private int depth(String name, List<String> open) {
            due("rule 8: calls go round: " + open + " " + name, !open.contains(name));
            int deepest = 0;
            if (!open.contains(name)) {
                open.add(name);
                for (String called : calls.getOrDefault(name, Set.of())) {
                    if (!called.equals(name)) {
                        deepest = Math.max(deepest, depth(called, open));
                    }
                }
                open.remove(open.size() - 1);
            }
            return 1 + deepest;
        }

        // ---- rule 9

        /** A counter against a bound, on by a number each time, and not set anywhere else in the loop. */
        @Override
        public Void visitForLoop(ForLoopTree tree, Void none) {
            due("rule 9: one counter" + at(tree), tree.getInitializer().size() == 1 && tree.getUpdate().size() == 1
                && tree.getInitializer().get(0) instanceof VariableTree && tree.getCondition() != null);
            String counter = ((VariableTree) tree.getInitializer().get(0)).getName().toString();
            String on = tree.getUpdate().get(0).toString(), until = tree.getCondition().toString();
            boolean up = on.equals(counter + "++;") || on.matches(counter + " \\+= [1-9];");
            boolean down = on.equals(counter + "--;");
            due("rule 9: " + counter + " goes on: " + on + at(tree), up || down);
            due("rule 9: " + counter + " has a bound: " + until + at(tree), Pattern.compile("(^|\\W)" + counter
                + "( \\+ 1)? " + (up ? "<" : ">") + "=? ").matcher(until).find());
            due("rule 9: " + counter + " is set by its loop alone" + at(tree), !Pattern.compile("(^|\\W)" + counter
                + "(\\+\\+|--| [-+*/|&]?= )").matcher(tree.getStatement().toString()).find());
            return super.visitForLoop(tree, none);
        }

        // ---- rule 12

        private void made(Tree tree) {
            due("rule 12: made by a constructor: " + tree + at(tree), around() == null
                || around().getName().contentEquals("<init>"));
        }

        @Override
        public Void visitNewClass(NewClassTree tree, Void none) {
            due("rule 2: an anonymous class" + at(tree), tree.getClassBody() == null);
            made(tree);
            return super.visitNewClass(tree, none);
        }

        @Override
        public Void visitNewArray(NewArrayTree tree, Void none) {
            made(tree);
            return super.visitNewArray(tree, none);
        }

        /** Rule 6: names of the machine's and the library's that answer by which object it is, or by the clock. */
        @Override
        public Void visitIdentifier(IdentifierTree tree, Void none) {
            due("rules 6, 13: " + tree + at(tree), !Set.of("Thread", "Object", "Runtime", "Exception", "Throwable", "Error")
                .contains(tree.getName().toString()));
            return super.visitIdentifier(tree, none);
        }
    }
}
