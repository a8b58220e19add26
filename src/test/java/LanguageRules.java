import com.sun.source.tree.ClassTree;
import com.sun.source.tree.CompilationUnitTree;
import com.sun.source.tree.MemberSelectTree;
import com.sun.source.tree.MethodTree;
import com.sun.source.tree.ModifiersTree;
import com.sun.source.tree.NewClassTree;
import com.sun.source.tree.PrimitiveTypeTree;
import com.sun.source.tree.Tree;
import com.sun.source.tree.VariableTree;
import com.sun.source.util.JavacTask;
import com.sun.source.util.SourcePositions;
import com.sun.source.util.TreePath;
import com.sun.source.util.TreePathScanner;
import com.sun.source.util.Trees;
import java.lang.reflect.Constructor;
import java.lang.reflect.Field;
import java.lang.reflect.Method;
import java.lang.reflect.Modifier;
import java.nio.file.Files;
import java.nio.file.Path;
import java.util.ArrayList;
import java.util.Arrays;
import java.util.List;
import java.util.Set;
import java.util.TreeSet;
import java.util.regex.Matcher;
import java.util.regex.Pattern;
import javax.lang.model.type.TypeKind;
import javax.tools.JavaCompiler;
import javax.tools.StandardJavaFileManager;
import javax.tools.ToolProvider;

/** The form of the class: its face as the document has it, and those rules of LANGUAGE.md that can be counted. */
public final class LanguageRules {
    private static final Path SOURCE = Path.of("src/main/java/PartedInks.java");
    private static final Path DOCUMENT = Path.of("../shared/DOC.md");
    private static final int MOST_PARAMETERS = 7;
    private static final int MOST_LINES = 60;
    private static final int MOST_CLASSES = 12;
    private static final int MOST_FIELDS = 20;
    private static final Set<Tree.Kind> RULED_OUT = Set.of(Tree.Kind.THROW, Tree.Kind.TRY, Tree.Kind.CATCH, Tree.Kind.SYNCHRONIZED,
        Tree.Kind.ASSERT, Tree.Kind.LAMBDA_EXPRESSION, Tree.Kind.MEMBER_REFERENCE, Tree.Kind.IMPORT, Tree.Kind.PACKAGE,
        Tree.Kind.ANNOTATION, Tree.Kind.YIELD);
    private static final Set<String> LIBRARY = Set.of("System.arraycopy", "Math.min", "Math.max", "Integer.bitCount");
    private static int wrong = 0;

    private static void fault(String what) {
        wrong++;
        System.out.println(what);
    }

    public static void main(String[] args) throws Exception {
        face();
        text();
        JavaCompiler compiler = ToolProvider.getSystemJavaCompiler();
        StandardJavaFileManager files = compiler.getStandardFileManager(null, null, null);
        JavacTask task = (JavacTask) compiler.getTask(null, files, null, null, null, files.getJavaFileObjects(SOURCE));
        for (CompilationUnitTree unit : task.parse()) {
            new Rules(unit, Trees.instance(task).getSourcePositions()).scan(unit, null);
        }
        System.out.println(wrong == 0 ? "the form is as told" : wrong + " faults of form");
        if (wrong != 0) {
            System.exit(1);
        }
    }

    /** Compares the public members with those that the document lists. */
    private static void face() throws Exception {
        String document = Files.readString(DOCUMENT);
        String listed = document.substring(document.indexOf("public final class PartedInks {"), document.indexOf("## Terms"));
        Set<String> due = new TreeSet<>();
        Matcher method = Pattern.compile("public int (\\w+)\\(([^)]*)\\);").matcher(listed);
        while (method.find()) {
            due.add("int " + method.group(1) + "(" + method.group(2).replaceAll("(int|long) \\w+", "$1").replace(" ", "") + ")");
        }
        Matcher constant = Pattern.compile("([A-Z]+) = (-\\d+)").matcher(listed);
        while (constant.find()) {
            due.add(constant.group(1) + " " + constant.group(2));
        }
        due.add("new()");
        Set<String> found = new TreeSet<>();
        for (Method m : PartedInks.class.getDeclaredMethods()) {
            if (!Modifier.isPrivate(m.getModifiers())) {
                String types = String.join(",", Arrays.stream(m.getParameterTypes()).map(Class::getName).toList());
                found.add(m.getReturnType().getName() + " " + m.getName() + "(" + types + ")");
            }
        }
        for (Field f : PartedInks.class.getDeclaredFields()) {
            if (!Modifier.isPrivate(f.getModifiers())) {
                found.add(f.getName() + " " + f.getInt(null));
            }
        }
        for (Constructor<?> c : PartedInks.class.getDeclaredConstructors()) {
            found.add("new(" + (c.getParameterCount() == 0 && Modifier.isPublic(c.getModifiers()) ? "" : "?") + ")");
        }
        if (due.size() != 36 || !found.equals(due)) {
            fault("the face is " + found + ", due is " + due);
        }
    }

    private static void text() throws Exception {
        for (byte sign : Files.readAllBytes(SOURCE)) {
            if (sign != '\n' && (sign < 32 || sign > 126)) {
                fault("a sign that is not plain: " + sign);
            }
        }
    }

    private static final class Rules extends TreePathScanner<Void, Void> {
        private final CompilationUnitTree unit;
        private final SourcePositions positions;
        private final List<String> publicNames = new ArrayList<>();
        private int classes = 0;

        Rules(CompilationUnitTree unit, SourcePositions positions) {
            this.unit = unit;
            this.positions = positions;
            for (Method m : PartedInks.class.getDeclaredMethods()) {
                if (Modifier.isPublic(m.getModifiers())) {
                    publicNames.add(m.getName());
                }
            }
        }

        private long line(long position) {
            return unit.getLineMap().getLineNumber(position);
        }

        private void fault(Tree tree, String what) {
            LanguageRules.fault("line " + line(positions.getStartPosition(unit, tree)) + ": " + what);
        }

        @Override
        public Void scan(Tree tree, Void none) {
            if (tree != null && RULED_OUT.contains(tree.getKind())) {
                fault(tree, "ruled out: " + tree.getKind());
            }
            return super.scan(tree, none);
        }

        private static boolean has(ModifiersTree modifiers, javax.lang.model.element.Modifier modifier) {
            return modifiers.getFlags().contains(modifier);
        }

        @Override
        public Void visitClass(ClassTree tree, Void none) {
            boolean outer = getCurrentPath().getParentPath().getLeaf() instanceof CompilationUnitTree;
            boolean isStatic = has(tree.getModifiers(), javax.lang.model.element.Modifier.STATIC);
            if (!outer && (!isStatic || has(tree.getModifiers(), javax.lang.model.element.Modifier.PUBLIC))) {
                fault(tree, "a class inside is private or package-visible, and static");
            }
            classes++;
            if (classes > MOST_CLASSES) {
                fault(tree, "more than " + MOST_CLASSES + " classes");
            }
            int fields = 0;
            for (Tree member : tree.getMembers()) {
                if (member.getKind() == Tree.Kind.BLOCK) {
                    fault(member, "an initialiser block");
                }
                if (member instanceof VariableTree field) {
                    fields += field(field);
                }
            }
            if (fields > MOST_FIELDS) {
                fault(tree, "more than " + MOST_FIELDS + " fields");
            }
            return super.visitClass(tree, none);
        }

        private int field(VariableTree field) {
            boolean isStatic = has(field.getModifiers(), javax.lang.model.element.Modifier.STATIC);
            if (isStatic && !has(field.getModifiers(), javax.lang.model.element.Modifier.FINAL)) {
                fault(field, "a static field is final");
            }
            return isStatic ? 0 : 1;
        }

        @Override
        public Void visitMethod(MethodTree tree, Void none) {
            if (tree.getParameters().size() > MOST_PARAMETERS) {
                fault(tree, "more than " + MOST_PARAMETERS + " parameters");
            }
            long from = line(positions.getStartPosition(unit, tree));
            if (line(positions.getEndPosition(unit, tree)) - from + 1 > MOST_LINES) {
                fault(tree, "more than " + MOST_LINES + " lines");
            }
            boolean isPublic = has(tree.getModifiers(), javax.lang.model.element.Modifier.PUBLIC);
            if (!isPublic && publicNames.contains(tree.getName().toString())) {
                fault(tree, "bears the name of a public method: " + tree.getName());
            }
            return super.visitMethod(tree, none);
        }

        /** All calls live in one room: what is made is made once, with the object. */
        private void madeOnce(Tree tree) {
            for (TreePath path = getCurrentPath(); path != null; path = path.getParentPath()) {
                if (path.getLeaf() instanceof MethodTree method && !method.getName().contentEquals("<init>")) {
                    fault(tree, "made in the method " + method.getName());
                }
            }
        }

        @Override
        public Void visitNewClass(NewClassTree tree, Void none) {
            madeOnce(tree);
            if (tree.getClassBody() != null) {
                fault(tree, "a class without a name");
            }
            return super.visitNewClass(tree, none);
        }

        @Override
        public Void visitNewArray(com.sun.source.tree.NewArrayTree tree, Void none) {
            madeOnce(tree);
            return super.visitNewArray(tree, none);
        }

        @Override
        public Void visitMemberSelect(MemberSelectTree tree, Void none) {
            String from = tree.getExpression().toString();
            boolean isLibrary = from.equals("System") || from.equals("Math") || from.equals("Integer") || from.startsWith("java");
            if (isLibrary && !LIBRARY.contains(tree.toString())) {
                fault(tree, "of the library only what is listed: " + tree);
            }
            return super.visitMemberSelect(tree, none);
        }

        @Override
        public Void visitPrimitiveType(PrimitiveTypeTree tree, Void none) {
            if (tree.getPrimitiveTypeKind() == TypeKind.DOUBLE || tree.getPrimitiveTypeKind() == TypeKind.FLOAT) {
                fault(tree, "nothing here needs " + tree);
            }
            return super.visitPrimitiveType(tree, none);
        }
    }
}
