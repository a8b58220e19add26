import com.sun.source.tree.ArrayAccessTree;
import com.sun.source.tree.ArrayTypeTree;
import com.sun.source.tree.AssignmentTree;
import com.sun.source.tree.BinaryTree;
import com.sun.source.tree.ClassTree;
import com.sun.source.tree.CompilationUnitTree;
import com.sun.source.tree.CompoundAssignmentTree;
import com.sun.source.tree.ExpressionTree;
import com.sun.source.tree.ForLoopTree;
import com.sun.source.tree.MemberSelectTree;
import com.sun.source.tree.MethodInvocationTree;
import com.sun.source.tree.MethodTree;
import com.sun.source.tree.ModifiersTree;
import com.sun.source.tree.NewArrayTree;
import com.sun.source.tree.NewClassTree;
import com.sun.source.tree.ParenthesizedTree;
import com.sun.source.tree.PrimitiveTypeTree;
import com.sun.source.tree.Tree;
import com.sun.source.tree.UnaryTree;
import com.sun.source.tree.VariableTree;
import com.sun.source.tree.WhileLoopTree;
import com.sun.source.util.JavacTask;
import com.sun.source.util.SourcePositions;
import com.sun.source.util.TreePath;
import com.sun.source.util.TreePathScanner;
import com.sun.source.util.Trees;
import java.lang.reflect.Constructor;
import java.lang.reflect.Field;
import java.lang.reflect.Method;
import java.lang.reflect.Modifier;
import java.nio.file.Files;
import java.nio.file.Path;
import java.util.ArrayList;
import java.util.Arrays;
import java.util.LinkedHashMap;
import java.util.LinkedHashSet;
import java.util.List;
import java.util.Map;
import java.util.Set;
import java.util.TreeSet;
import java.util.regex.Matcher;
import java.util.regex.Pattern;
import javax.lang.model.element.Element;
import javax.lang.model.element.ExecutableElement;
import javax.lang.model.element.VariableElement;
import javax.lang.model.type.TypeKind;
import javax.tools.JavaCompiler;
import javax.tools.StandardJavaFileManager;
import javax.tools.ToolProvider;

/** The form of the class: its face as the document has it, and those rules of LANGUAGE.md that can be counted. */
public final class LanguageRules {
    private static final Path SOURCE = Path.of("src/main/java/PartedInks.java");
    private static final Path DOCUMENT = Path.of("../shared/DOC.md");
    private static final int MOST_PARAMETERS = 7;
    private static final int MOST_LINES = 60;
    private static final int MOST_CLASSES = 12;
    private static final int MOST_FIELDS = 20;
    private static final int MOST_DEEP = 8;
    private static final Set<Tree.Kind> RULED_OUT = Set.of(Tree.Kind.THROW, Tree.Kind.TRY, Tree.Kind.CATCH, Tree.Kind.SYNCHRONIZED,
        Tree.Kind.ASSERT, Tree.Kind.LAMBDA_EXPRESSION, Tree.Kind.MEMBER_REFERENCE, Tree.Kind.IMPORT, Tree.Kind.PACKAGE,
        Tree.Kind.ANNOTATION, Tree.Kind.YIELD);
    private static final Set<String> LIBRARY = Set.of("System.arraycopy", "Math.min", "Math.max", "Integer.bitCount");
    private static final Set<String> OWN_CLASSES = Set.of("State", "Past", "Looks", "Areas", "Tape", "Row");
    private static final Set<String> CONSTANTS = Set.of("int", "long", "boolean", "char", "String");
    private static final Set<String> CONSTANT_ROWS = Set.of("int[]", "long[]", "char[]", "byte[]");
    private static final Set<Tree.Kind> COMPARISONS = Set.of(Tree.Kind.LESS_THAN, Tree.Kind.LESS_THAN_EQUAL, Tree.Kind.GREATER_THAN,
        Tree.Kind.GREATER_THAN_EQUAL);
    private static final Set<Tree.Kind> STEPS = Set.of(Tree.Kind.POSTFIX_INCREMENT, Tree.Kind.POSTFIX_DECREMENT,
        Tree.Kind.PREFIX_INCREMENT, Tree.Kind.PREFIX_DECREMENT);
    private static int wrong = 0;

    private static void fault(String what) {
        wrong++;
        System.out.println(what);
    }

    public static void main(String[] args) throws Exception {
        face();
        text();
        JavaCompiler compiler = ToolProvider.getSystemJavaCompiler();
        StandardJavaFileManager files = compiler.getStandardFileManager(null, null, null);
        JavacTask task = (JavacTask) compiler.getTask(null, files, null, null, null, files.getJavaFileObjects(SOURCE));
        Iterable<? extends CompilationUnitTree> units = task.parse();
        task.analyze();
        for (CompilationUnitTree unit : units) {
            Rules rules = new Rules(unit, Trees.instance(task));
            rules.scan(unit, null);
            rules.depths();
        }
        System.out.println(wrong == 0 ? "the form is as told" : wrong + " faults of form");
        if (wrong != 0) {
            System.exit(1);
        }
    }

    /** Compares the public members with those that the document lists. */
    private static void face() throws Exception {
        String document = Files.readString(DOCUMENT);
        String listed = document.substring(document.indexOf("public final class PartedInks {"), document.indexOf("## Terms"));
        Set<String> due = new TreeSet<>();
        Matcher method = Pattern.compile("public int (\\w+)\\(([^)]*)\\);").matcher(listed);
        while (method.find()) {
            due.add("int " + method.group(1) + "(" + method.group(2).replaceAll("(int|long) \\w+", "$1").replace(" ", "") + ")");
        }
        Matcher constant = Pattern.compile("([A-Z]+) = (-\\d+)").matcher(listed);
        while (constant.find()) {
            due.add(constant.group(1) + " " + constant.group(2));
        }
        due.add("new()");
        Set<String> found = new TreeSet<>();
        for (Method m : PartedInks.class.getDeclaredMethods()) {
            if (!Modifier.isPrivate(m.getModifiers())) {
                String types = String.join(",", Arrays.stream(m.getParameterTypes()).map(Class::getName).toList());
                found.add(m.getReturnType().getName() + " " + m.getName() + "(" + types + ")");
            }
        }
        for (Field f : PartedInks.class.getDeclaredFields()) {
            if (!Modifier.isPrivate(f.getModifiers())) {
                found.add(f.getName() + " " + f.getInt(null));
            }
        }
        for (Constructor<?> c : PartedInks.class.getDeclaredConstructors()) {
            found.add("new(" + (c.getParameterCount() == 0 && Modifier.isPublic(c.getModifiers()) ? "" : "?") + ")");
        }
        if (due.size() != 36 || !found.equals(due)) {
            fault("the face is " + found + ", due is " + due);
        }
        if (!Modifier.isPublic(PartedInks.class.getModifiers()) || !Modifier.isFinal(PartedInks.class.getModifiers())) {
            fault("the class is public and final");
        }
    }

    private static void text() throws Exception {
        for (byte sign : Files.readAllBytes(SOURCE)) {
            if (sign != '\n' && (sign < 32 || sign > 126)) {
                fault("a sign that is not plain: " + sign);
            }
        }
    }

    private static final class Rules extends TreePathScanner<Void, Void> {
        private final CompilationUnitTree unit;
        private final Trees trees;
        private final SourcePositions positions;
        private final List<String> publicNames = new ArrayList<>();
        private final Map<Element, Set<Element>> calls = new LinkedHashMap<>();
        private final Map<Element, Integer> depths = new LinkedHashMap<>();
        private Element caller = null;
        private int classes = 0;

        Rules(CompilationUnitTree unit, Trees trees) {
            this.unit = unit;
            this.trees = trees;
            this.positions = trees.getSourcePositions();
            for (Method m : PartedInks.class.getDeclaredMethods()) {
                if (Modifier.isPublic(m.getModifiers())) {
                    publicNames.add(m.getName());
                }
            }
        }

        private long line(long position) {
            return unit.getLineMap().getLineNumber(position);
        }

        private void fault(Tree tree, String what) {
            LanguageRules.fault("line " + line(positions.getStartPosition(unit, tree)) + ": " + what);
        }

        @Override
        public Void scan(Tree tree, Void none) {
            if (tree != null && RULED_OUT.contains(tree.getKind())) {
                fault(tree, "ruled out: " + tree.getKind());
            }
            return super.scan(tree, none);
        }

        private static boolean has(ModifiersTree modifiers, javax.lang.model.element.Modifier modifier) {
            return modifiers.getFlags().contains(modifier);
        }

        @Override
        public Void visitClass(ClassTree tree, Void none) {
            boolean outer = getCurrentPath().getParentPath().getLeaf() instanceof CompilationUnitTree;
            boolean isStatic = has(tree.getModifiers(), javax.lang.model.element.Modifier.STATIC);
            if (!outer && (!isStatic || has(tree.getModifiers(), javax.lang.model.element.Modifier.PUBLIC))) {
                fault(tree, "a class inside is private or package-visible, and static");
            }
            classes++;
            if (classes > MOST_CLASSES) {
                fault(tree, "more than " + MOST_CLASSES + " classes");
            }
            int fields = 0;
            for (Tree member : tree.getMembers()) {
                if (member.getKind() == Tree.Kind.BLOCK) {
                    fault(member, "an initialiser block");
                }
                if (member instanceof VariableTree field) {
                    fields += field(field);
                }
            }
            if (fields > MOST_FIELDS) {
                fault(tree, "more than " + MOST_FIELDS + " fields");
            }
            return super.visitClass(tree, none);
        }

        private int field(VariableTree field) {
            boolean isStatic = has(field.getModifiers(), javax.lang.model.element.Modifier.STATIC);
            if (isStatic && !has(field.getModifiers(), javax.lang.model.element.Modifier.FINAL)) {
                fault(field, "a static field is final");
            }
            String type = field.getType().toString();
            boolean isWrittenOut = field.getInitializer() instanceof NewArrayTree row && row.getInitializers() != null;
            if (isStatic && !CONSTANTS.contains(type) && !(CONSTANT_ROWS.contains(type) && isWrittenOut)) {
                fault(field, "a static field is a constant, or a row of numbers written out");
            }
            return isStatic ? 0 : 1;
        }

        @Override
        public Void visitVariable(VariableTree tree, Void none) {
            Tree type = tree.getType() instanceof ArrayTypeTree row ? row.getType() : tree.getType();
            if (!(type instanceof PrimitiveTypeTree) && !OWN_CLASSES.contains(type.toString())) {
                fault(tree, "nothing here needs the type " + tree.getType());
            }
            return super.visitVariable(tree, none);
        }

        @Override
        public Void visitMethod(MethodTree tree, Void none) {
            if (tree.getParameters().size() > MOST_PARAMETERS) {
                fault(tree, "more than " + MOST_PARAMETERS + " parameters");
            }
            long from = line(positions.getStartPosition(unit, tree));
            if (line(positions.getEndPosition(unit, tree)) - from + 1 > MOST_LINES) {
                fault(tree, "more than " + MOST_LINES + " lines");
            }
            boolean isPublic = has(tree.getModifiers(), javax.lang.model.element.Modifier.PUBLIC);
            if (!isPublic && publicNames.contains(tree.getName().toString())) {
                fault(tree, "bears the name of a public method: " + tree.getName());
            }
            caller = trees.getElement(getCurrentPath());
            calls.put(caller, new LinkedHashSet<>());
            super.visitMethod(tree, none);
            caller = null;
            return null;
        }

        @Override
        public Void visitMethodInvocation(MethodInvocationTree tree, Void none) {
            called(tree.getMethodSelect());
            return super.visitMethodInvocation(tree, none);
        }

        private void called(ExpressionTree method) {
            if (caller != null && elementOf(method) instanceof ExecutableElement found) {
                calls.get(caller).add(found);
            }
        }

        private Element elementOf(Tree tree) {
            return trees.getElement(trees.getPath(unit, tree));
        }

        /** Calls of own methods that stand open at once, the public one among them. */
        void depths() {
            for (Element method : calls.keySet()) {
                int deep = depth(method, 1);
                if (deep > MOST_DEEP) {
                    LanguageRules.fault(method + ": calls go " + deep + " deep");
                }
            }
        }

        private int depth(Element method, int open) {
            if (!calls.containsKey(method)) {
                return 0;
            }
            if (open > calls.size()) {
                LanguageRules.fault(method + " calls itself, and nothing here needs that");
                return 0;
            }
            Integer known = depths.get(method);
            if (known != null) {
                return known;
            }
            int deepest = 0;
            for (Element next : calls.get(method)) {
                deepest = Math.max(deepest, depth(next, open + 1));
            }
            depths.put(method, deepest + 1);
            return deepest + 1;
        }

        /** A row that stands in a static field is never changed. */
        private void written(Tree target) {
            Tree row = target instanceof ArrayAccessTree item ? item.getExpression() : target;
            if (elementOf(row) instanceof VariableElement found && found.getKind().isField()
                && found.getModifiers().contains(javax.lang.model.element.Modifier.STATIC)) {
                fault(target, "a static field is changed: " + target);
            }
        }

        @Override
        public Void visitAssignment(AssignmentTree tree, Void none) {
            written(tree.getVariable());
            return super.visitAssignment(tree, none);
        }

        @Override
        public Void visitCompoundAssignment(CompoundAssignmentTree tree, Void none) {
            written(tree.getVariable());
            return super.visitCompoundAssignment(tree, none);
        }

        @Override
        public Void visitUnary(UnaryTree tree, Void none) {
            if (STEPS.contains(tree.getKind())) {
                written(tree.getExpression());
            }
            return super.visitUnary(tree, none);
        }

        @Override
        public Void visitForLoop(ForLoopTree tree, Void none) {
            if (tree.getUpdate().isEmpty() || !isBounded(tree.getCondition())) {
                fault(tree, "a loop whose end can't be seen");
            }
            return super.visitForLoop(tree, none);
        }

        @Override
        public Void visitWhileLoop(WhileLoopTree tree, Void none) {
            if (!isBounded(tree.getCondition())) {
                fault(tree, "a loop whose end can't be seen");
            }
            return super.visitWhileLoop(tree, none);
        }

        /** Whether a comparison must hold for the loop to go on: alone, or as a part of an and. */
        private static boolean isBounded(Tree condition) {
            if (condition instanceof ParenthesizedTree inside) {
                return isBounded(inside.getExpression());
            }
            if (!(condition instanceof BinaryTree both)) {
                return false;
            }
            return COMPARISONS.contains(both.getKind())
                || both.getKind() == Tree.Kind.CONDITIONAL_AND && (isBounded(both.getLeftOperand()) || isBounded(both.getRightOperand()));
        }

        /** All calls live in one room: what is made is made once, with the object. */
        private void madeOnce(Tree tree) {
            for (TreePath path = getCurrentPath(); path != null; path = path.getParentPath()) {
                if (path.getLeaf() instanceof MethodTree method && !method.getName().contentEquals("<init>")) {
                    fault(tree, "made in the method " + method.getName());
                }
            }
        }

        @Override
        public Void visitNewClass(NewClassTree tree, Void none) {
            madeOnce(tree);
            if (tree.getClassBody() != null) {
                fault(tree, "a class without a name");
            }
            return super.visitNewClass(tree, none);
        }

        @Override
        public Void visitNewArray(NewArrayTree tree, Void none) {
            madeOnce(tree);
            return super.visitNewArray(tree, none);
        }

        @Override
        public Void visitMemberSelect(MemberSelectTree tree, Void none) {
            String from = tree.getExpression().toString();
            boolean isLibrary = from.equals("System") || from.equals("Math") || from.equals("Integer") || from.startsWith("java");
            if (isLibrary && !LIBRARY.contains(tree.toString())) {
                fault(tree, "of the library only what is listed: " + tree);
            }
            return super.visitMemberSelect(tree, none);
        }

        @Override
        public Void visitPrimitiveType(PrimitiveTypeTree tree, Void none) {
            if (tree.getPrimitiveTypeKind() == TypeKind.DOUBLE || tree.getPrimitiveTypeKind() == TypeKind.FLOAT) {
                fault(tree, "nothing here needs " + tree);
            }
            return super.visitPrimitiveType(tree, none);
        }
    }
}
