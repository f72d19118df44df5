import com.sun.source.tree.BinaryTree;
import com.sun.source.tree.BlockTree;
import com.sun.source.tree.ClassTree;
import com.sun.source.tree.CompilationUnitTree;
import com.sun.source.tree.CompoundAssignmentTree;
import com.sun.source.tree.ExpressionTree;
import com.sun.source.tree.ForLoopTree;
import com.sun.source.tree.LiteralTree;
import com.sun.source.tree.MethodInvocationTree;
import com.sun.source.tree.MethodTree;
import com.sun.source.tree.NewClassTree;
import com.sun.source.tree.Tree;
import com.sun.source.tree.VariableTree;
import com.sun.source.tree.WhileLoopTree;
import com.sun.source.util.JavacTask;
import com.sun.source.util.TreePath;
import com.sun.source.util.TreePathScanner;
import com.sun.source.util.Trees;
import java.io.IOException;
import java.lang.reflect.Field;
import java.lang.reflect.Method;
import java.lang.reflect.Modifier;
import java.nio.file.Path;
import java.util.Arrays;
import java.util.EnumSet;
import java.util.HashMap;
import java.util.List;
import java.util.Map;
import java.util.Set;
import java.util.TreeMap;
import java.util.TreeSet;
import java.util.stream.Collectors;
import javax.lang.model.element.Element;
import javax.lang.model.element.ExecutableElement;
import javax.lang.model.type.ArrayType;
import javax.lang.model.type.TypeKind;
import javax.lang.model.type.TypeMirror;
import javax.tools.JavaCompiler;
import javax.tools.StandardJavaFileManager;
import javax.tools.ToolProvider;

/** What a machine can tell of ../shared/LANGUAGE.md, by what javac reads; checks begin with the rule's number. */
public final class LanguageTest {
    private static final Path SOURCE = Path.of("src/main/java/MatchTrees.java");
    private static final String FACE = "boolean choose(int), boolean drop(int), boolean end(int), boolean on(), "
        + "boolean seed(int), boolean swap(int,int), boolean undo(), int arm(int,int), int best(int), int chance(int), "
        + "int fault(int), int feed(int,int,int,int,int), int first(int), int fits(int,int,int), int has(int), "
        + "int holds(int,int), int image(), int kept(int,int), int letter(int,int,int), int match(), int missing(int), "
        + "int octet(int), int row(), int run(int), int safe(int,int), int scopes(int,int,int), int see(), "
        + "int sets(int), int status(int), int taken(int), int tells(int), int text(int), int tree(int,int), "
        + "int turn(int), int values(int)";
    private static final Set<String> LIBRARY = Set.of("String.length", "String.charAt", "Math.max", "Math.min",
        "Math.floorMod", "Integer.bitCount", "Object.<init>");
    private static final Set<Tree.Kind> FORBIDDEN = EnumSet.of(Tree.Kind.THROW, Tree.Kind.TRY, Tree.Kind.SYNCHRONIZED,
        Tree.Kind.ASSERT, Tree.Kind.LAMBDA_EXPRESSION, Tree.Kind.MEMBER_REFERENCE, Tree.Kind.IMPORT,
        Tree.Kind.PACKAGE, Tree.Kind.TYPE_CAST, Tree.Kind.INSTANCE_OF);

    private static String named(Method m) {
        String given = Arrays.stream(m.getParameterTypes()).map(Class::getName).collect(Collectors.joining(","));
        return m.getReturnType().getName() + " " + m.getName() + "(" + given + ")";
    }

    private static void face() {
        TreeSet<String> calls = new TreeSet<>();
        TreeSet<String> names = new TreeSet<>();
        for (Method m : MatchTrees.class.getDeclaredMethods()) {
            if (Modifier.isPublic(m.getModifiers())) {
                calls.add(named(m));
                names.add(m.getName());
            } else {
                Given.due("1: " + m.getName() + " is private", Modifier.isPrivate(m.getModifiers()), true);
            }
        }
        Given.same("1: the face", String.join(", ", calls), FACE);
        Given.due("1: the class is final", Modifier.isFinal(MatchTrees.class.getModifiers()), true);
        Given.due("1: one constructor", MatchTrees.class.getDeclaredConstructors().length, 1);
        Given.due("1: it is public", MatchTrees.class.getConstructors().length, 1);
        Given.due("11: classes", MatchTrees.class.getDeclaredClasses().length + 1 <= 12, true);
        for (Field f : MatchTrees.class.getDeclaredFields()) {
            boolean isFace = f.getName().equals("NONE") && Modifier.isPublic(f.getModifiers());
            Given.due("1: " + f.getName() + " is private", isFace || Modifier.isPrivate(f.getModifiers()), true);
        }
        fields(MatchTrees.class);
        for (Class<?> c : MatchTrees.class.getDeclaredClasses()) {
            Given.due("2: " + c.getName() + " is static", Modifier.isStatic(c.getModifiers()), true);
            Given.due("1: " + c.getName() + " is not public", Modifier.isPublic(c.getModifiers()), false);
            fields(c);
            for (Method m : c.getDeclaredMethods()) {
                Given.due("1: " + m.getName() + " bears no public name", names.contains(m.getName()), false);
            }
        }
    }

    private static void fields(Class<?> c) {
        int count = 0;
        for (Field f : c.getDeclaredFields()) {
            if (Modifier.isStatic(f.getModifiers())) {
                boolean isConstant = Modifier.isFinal(f.getModifiers()) && f.getType() == int.class;
                Given.due("5: " + f.getName() + " is a constant", isConstant, true);
            } else {
                count++;
            }
        }
        Given.due("11: fields of " + c.getName() + ": " + count, count <= 20, true);
    }

    /** Goes through the source, and notes which method calls which. */
    private static final class Reader extends TreePathScanner<Void, Void> {
        final Map<Element, TreeSet<String>> calls = new HashMap<>();
        final Map<String, Element> byName = new TreeMap<>();
        private final Trees trees;
        private final CompilationUnitTree unit;

        Reader(Trees itsTrees, CompilationUnitTree itsUnit) {
            trees = itsTrees;
            unit = itsUnit;
        }

        private long line(Tree tree) {
            return unit.getLineMap().getLineNumber(trees.getSourcePositions().getStartPosition(unit, tree));
        }

        private void rule(int number, Tree at, boolean good) {
            String what = good ? "" : " " + at.toString().lines().findFirst().orElse("");
            Given.due(number + ": line " + line(at) + what, good, true);
        }

        private TypeMirror typeOf(Tree tree) {
            return trees.getTypeMirror(new TreePath(getCurrentPath(), tree));
        }

        private static boolean isOwn(String type) {
            return type.equals("MatchTrees") || type.startsWith("MatchTrees.");
        }

        private static boolean isGood(TypeMirror type) {
            if (type.getKind() == TypeKind.ARRAY) {
                TypeMirror part = ((ArrayType) type).getComponentType();
                boolean rows = part.getKind() == TypeKind.ARRAY
                    && ((ArrayType) part).getComponentType().getKind().isPrimitive();
                return rows || part.getKind().isPrimitive() || isOwn(part.toString());
            }
            String name = type.toString();
            return type.getKind().isPrimitive() || type.getKind() == TypeKind.VOID || isOwn(name)
                || name.equals("java.lang.String") || name.equals("java.lang.StringBuilder");
        }

        private static String nameOf(Element method) {
            return method.getEnclosingElement().getSimpleName() + "." + method.getSimpleName();
        }

        @Override
        public Void scan(Tree tree, Void none) {
            if (tree != null && FORBIDDEN.contains(tree.getKind())) {
                // Casts are of numbers alone: the class needs no others.
                boolean isNumber = tree.getKind() == Tree.Kind.TYPE_CAST && typeOf(tree).getKind().isPrimitive();
                rule(6, tree, isNumber);
            }
            return super.scan(tree, none);
        }

        @Override
        public Void visitClass(ClassTree tree, Void none) {
            Tree.Kind around = getCurrentPath().getParentPath().getLeaf().getKind();
            rule(2, tree, around == Tree.Kind.CLASS || around == Tree.Kind.COMPILATION_UNIT);
            for (Tree member : tree.getMembers()) {
                rule(5, tree, !(member instanceof BlockTree));
            }
            return super.visitClass(tree, none);
        }

        @Override
        public Void visitVariable(VariableTree tree, Void none) {
            rule(3, tree, isGood(trees.getTypeMirror(getCurrentPath())));
            return super.visitVariable(tree, none);
        }

        @Override
        public Void visitMethod(MethodTree tree, Void none) {
            Element element = trees.getElement(getCurrentPath());
            calls.put(element, new TreeSet<>());
            Element other = byName.put(nameOf(element), element);
            boolean isMade = element.getSimpleName().contentEquals("<init>");
            Given.due("no two methods are " + nameOf(element), other == null || isMade, true);
            rule(11, tree, tree.getParameters().size() <= 7);
            rule(6, tree, !Set.of("equals", "hashCode", "toString").contains(tree.getName().toString()));
            rule(3, tree, isGood(((ExecutableElement) element).getReturnType()));
            long from = trees.getSourcePositions().getStartPosition(unit, tree);
            long to = trees.getSourcePositions().getEndPosition(unit, tree);
            if (from < to) {
                rule(11, tree, unit.getLineMap().getLineNumber(to) - line(tree) < 60);
            }
            return super.visitMethod(tree, none);
        }

        @Override
        public Void visitMethodInvocation(MethodInvocationTree tree, Void none) {
            note(tree, trees.getElement(getCurrentPath()));
            return super.visitMethodInvocation(tree, none);
        }

        @Override
        public Void visitNewClass(NewClassTree tree, Void none) {
            rule(2, tree, tree.getClassBody() == null);
            note(tree, trees.getElement(getCurrentPath()));
            return super.visitNewClass(tree, none);
        }

        private void note(Tree tree, Element called) {
            if (!isOwn(called.getEnclosingElement().toString())) {
                rule(4, tree, LIBRARY.contains(nameOf(called)));
                return;
            }
            TreePath around = getCurrentPath();
            while (around != null && !(around.getLeaf() instanceof MethodTree)) {
                around = around.getParentPath();
            }
            if (around != null) {
                calls.get(trees.getElement(around)).add(nameOf(called));
            }
        }

        /** No text, nor any object but against null, is compared or joined by a sign. */
        @Override
        public Void visitBinary(BinaryTree tree, Void none) {
            rule(6, tree, typeOf(tree.getLeftOperand()).getKind().isPrimitive());
            rule(6, tree, typeOf(tree.getRightOperand()).getKind().isPrimitive());
            return super.visitBinary(tree, none);
        }

        @Override
        public Void visitCompoundAssignment(CompoundAssignmentTree tree, Void none) {
            rule(10, tree, typeOf(tree.getVariable()).getKind().isPrimitive());
            return super.visitCompoundAssignment(tree, none);
        }

        @Override
        public Void visitForLoop(ForLoopTree tree, Void none) {
            rule(9, tree, hasBound(tree.getCondition()) && !tree.getUpdate().isEmpty());
            return super.visitForLoop(tree, none);
        }

        @Override
        public Void visitWhileLoop(WhileLoopTree tree, Void none) {
            rule(9, tree, hasBound(tree.getCondition()));
            return super.visitWhileLoop(tree, none);
        }

        private static boolean hasBound(ExpressionTree condition) {
            String text = condition == null ? "" : condition.toString();
            return text.contains(" < ") || text.contains(" <= ") || text.contains(" > ") || text.contains(" >= ");
        }

        @Override
        public Void visitLiteral(LiteralTree tree, Void none) {
            if (tree.getValue() instanceof String s) {
                rule(4, tree, s.chars().allMatch(c -> c >= 1 && c <= 127));
            }
            return super.visitLiteral(tree, none);
        }
    }

    /** Which methods can come to be called by one. */
    private static Set<String> reached(Reader source, String from) {
        Set<String> met = new TreeSet<>();
        List<String> next = List.of(from);
        while (!next.isEmpty()) {
            Set<String> more = new TreeSet<>();
            for (String name : next) {
                more.addAll(source.calls.get(source.byName.get(name)));
            }
            more.removeAll(met);
            met.addAll(more);
            next = List.copyOf(more);
        }
        return met;
    }

    /** How deep calls go from a method on, none coming twice but by recursion. */
    private static int depth(Reader source, String from, Map<String, Set<String>> reached) {
        int deepest = 0;
        for (String called : source.calls.get(source.byName.get(from))) {
            if (!reached.get(called).contains(from)) {
                deepest = Math.max(deepest, depth(source, called, reached));
            }
        }
        return deepest + 1;
    }

    private static void calls(Reader source) {
        Map<String, Set<String>> reached = new TreeMap<>();
        for (String name : source.byName.keySet()) {
            reached.put(name, reached(source, name));
        }
        int recursions = 0;
        for (String name : source.byName.keySet()) {
            Given.due("11: calls from " + name + " on are few", depth(source, name, reached) <= 8, true);
            if (reached.get(name).contains(name)) {
                ExecutableElement method = (ExecutableElement) source.byName.get(name);
                Set<javax.lang.model.element.Modifier> its = method.getModifiers();
                boolean isPlain = its.contains(javax.lang.model.element.Modifier.PRIVATE)
                    && its.contains(javax.lang.model.element.Modifier.STATIC);
                Given.due("8: " + name + " is private and static", isPlain, true);
                boolean guarded = method.getParameters().stream().anyMatch(p -> p.getSimpleName().contentEquals("depth"));
                Given.due("8: " + name + " is given its depth", guarded, true);
                recursions++;
            }
        }
        Given.due("8: methods that recur", recursions, 6);
    }

    public static void main(String[] args) throws IOException {
        face();
        JavaCompiler compiler = ToolProvider.getSystemJavaCompiler();
        try (StandardJavaFileManager files = compiler.getStandardFileManager(null, null, null)) {
            JavacTask task = (JavacTask) compiler.getTask(null, files, null, List.of("-proc:none"), null,
                files.getJavaFileObjects(SOURCE));
            CompilationUnitTree unit = task.parse().iterator().next();
            task.analyze();
            Reader source = new Reader(Trees.instance(task), unit);
            source.scan(unit, null);
            calls(source);
        }
        Given.finish();
    }
}
