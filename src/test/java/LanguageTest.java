import com.sun.source.tree.AnnotationTree;
import com.sun.source.tree.AssertTree;
import com.sun.source.tree.ClassTree;
import com.sun.source.tree.CompilationUnitTree;
import com.sun.source.tree.ImportTree;
import com.sun.source.tree.LambdaExpressionTree;
import com.sun.source.tree.MemberReferenceTree;
import com.sun.source.tree.MethodTree;
import com.sun.source.tree.NewArrayTree;
import com.sun.source.tree.NewClassTree;
import com.sun.source.tree.SynchronizedTree;
import com.sun.source.tree.ThrowTree;
import com.sun.source.tree.TryTree;
import com.sun.source.tree.VariableTree;
import com.sun.source.util.JavacTask;
import com.sun.source.util.TreePath;
import com.sun.source.util.TreePathScanner;
import com.sun.source.util.Trees;
import java.io.IOException;
import java.lang.reflect.Constructor;
import java.lang.reflect.Field;
import java.lang.reflect.Method;
import java.lang.reflect.Modifier;
import java.nio.file.Path;
import java.util.List;
import java.util.Set;
import java.util.TreeSet;
import javax.tools.JavaCompiler;
import javax.tools.StandardJavaFileManager;
import javax.tools.ToolProvider;

/** The class has the document's face, and its file keeps those rules of LANGUAGE.md that can be seen. */
public final class LanguageTest {
    private static final List<String> FACE = List.of(
            "void begin(int, int, int, int) IllegalStateException UnsupportedOperationException"
                    + " IllegalArgumentException",
            "int corner(int, int, int) IllegalStateException IllegalArgumentException"
                    + " UnsupportedOperationException",
            "int rail(int, int, int) IllegalStateException IllegalArgumentException"
                    + " UnsupportedOperationException",
            "int end() IllegalStateException",
            "int fault(int)",
            "int shape(int, int) NoSuchElementException IllegalArgumentException",
            "int count(int)",
            "int stitch()",
            "int record(int, int) IndexOutOfBoundsException IllegalArgumentException",
            "int byteAt(int) IndexOutOfBoundsException",
            "int load(int, int) IndexOutOfBoundsException IllegalArgumentException",
            "int decode()",
            "int reorder()",
            "int order(int)",
            "int thread(int)",
            "int under(int, int) IllegalArgumentException",
            "int needle(int, int) IndexOutOfBoundsException IllegalArgumentException",
            "boolean hoop(int, int)",
            "int stop(int)");
    private static final Set<String> EXCEPTIONS = Set.of("IllegalStateException", "IllegalArgumentException",
            "IndexOutOfBoundsException", "ArithmeticException", "UnsupportedOperationException",
            "NoSuchElementException", "RuntimeException");
    private static final Set<String> STATIC_TYPES = Set.of("int", "int[]");
    private static final int MOST_LINES = 60;
    private static final int MOST_PARAMETERS = 7;
    private static final int MOST_CLASSES = 12;
    private static final int MOST_FIELDS = 20;

    private final Due due = new Due();

    public static void main(String[] args) throws IOException {
        LanguageTest test = new LanguageTest();
        test.face();
        test.members();
        test.inside();
        test.source();
        test.due.finish();
    }

    private static String headOf(Method method) {
        StringBuilder head = new StringBuilder();
        head.append(method.getReturnType().getSimpleName()).append(' ').append(method.getName()).append('(');
        for (int i = 0; i < method.getParameterCount(); i++) {
            head.append(i > 0 ? ", " : "").append(method.getParameterTypes()[i].getSimpleName());
        }
        head.append(')');
        for (Class<?> thrown : method.getExceptionTypes()) {
            head.append(' ').append(thrown.getSimpleName());
        }
        return head.toString();
    }

    private void face() {
        Set<String> heads = new TreeSet<>();
        for (Method method : StitchDesk.class.getDeclaredMethods()) {
            if (Modifier.isPublic(method.getModifiers())) {
                heads.add(headOf(method));
            }
        }
        due.isTrue("the public methods are " + FACE + ", not " + heads, heads.equals(new TreeSet<>(FACE)));
        int modifiers = StitchDesk.class.getModifiers();
        due.isTrue("public and final", Modifier.isPublic(modifiers) && Modifier.isFinal(modifiers));
        due.isTrue("without a package", StitchDesk.class.getPackageName().isEmpty());
        Constructor<?>[] constructors = StitchDesk.class.getDeclaredConstructors();
        due.isTrue("one public constructor of nothing", constructors.length == 1
                && Modifier.isPublic(constructors[0].getModifiers()) && constructors[0].getParameterCount() == 0);
    }

    private void members() {
        for (Method method : StitchDesk.class.getDeclaredMethods()) {
            boolean seen = Modifier.isPublic(method.getModifiers());
            due.isTrue(method + " is public or private", seen || Modifier.isPrivate(method.getModifiers()));
        }
        for (Field field : StitchDesk.class.getDeclaredFields()) {
            boolean isNone = field.getName().equals("NONE") && Modifier.isPublic(field.getModifiers());
            due.isTrue(field + " is private", isNone || Modifier.isPrivate(field.getModifiers()));
        }
    }

    private void inside() {
        Set<String> names = new TreeSet<>();
        for (Method method : StitchDesk.class.getMethods()) {
            names.add(method.getName());
        }
        for (Class<?> inner : StitchDesk.class.getDeclaredClasses()) {
            int modifiers = inner.getModifiers();
            due.isTrue(inner + " is static", Modifier.isStatic(modifiers));
            due.isTrue(inner + " is not seen", !Modifier.isPublic(modifiers) && !Modifier.isProtected(modifiers));
            for (Method method : inner.getDeclaredMethods()) {
                due.isTrue(method + " has a name of its own", !names.contains(method.getName()));
            }
        }
        for (Method method : StitchDesk.class.getDeclaredMethods()) {
            due.isTrue(method + " does not bear a public name",
                    Modifier.isPublic(method.getModifiers()) || !names.contains(method.getName()));
        }
    }

    private void source() throws IOException {
        JavaCompiler compiler = ToolProvider.getSystemJavaCompiler();
        try (StandardJavaFileManager files = compiler.getStandardFileManager(null, null, null)) {
            JavacTask task = (JavacTask) compiler.getTask(null, files, null, null, null,
                    files.getJavaFileObjects(Path.of("src/main/java/StitchDesk.java")));
            Rules rules = new Rules(due, Trees.instance(task));
            for (CompilationUnitTree unit : task.parse()) {
                rules.scan(unit, null);
            }
            due.isTrue(rules.classes + " classes are at most " + MOST_CLASSES, rules.classes <= MOST_CLASSES);
        }
    }

    private static final class Rules extends TreePathScanner<Void, Void> {
        private final Due due;
        private final Trees trees;
        private int classes;

        private Rules(Due due, Trees trees) {
            this.due = due;
            this.trees = trees;
        }

        private void refuse(String what) {
            due.isTrue(what + " is ruled out, so that it", false);
        }

        private long linesOf(MethodTree method) {
            CompilationUnitTree unit = getCurrentPath().getCompilationUnit();
            long start = trees.getSourcePositions().getStartPosition(unit, method);
            long end = trees.getSourcePositions().getEndPosition(unit, method);
            return unit.getLineMap().getLineNumber(end) - unit.getLineMap().getLineNumber(start) + 1;
        }

        @Override
        public Void visitClass(ClassTree tree, Void none) {
            classes++;
            long fields = tree.getMembers().stream().filter(m -> m instanceof VariableTree)
                    .filter(m -> !((VariableTree) m).getModifiers().getFlags()
                            .contains(javax.lang.model.element.Modifier.STATIC)).count();
            due.isTrue(tree.getSimpleName() + " has at most " + MOST_FIELDS + " fields", fields <= MOST_FIELDS);
            return super.visitClass(tree, none);
        }

        @Override
        public Void visitVariable(VariableTree tree, Void none) {
            Set<javax.lang.model.element.Modifier> flags = tree.getModifiers().getFlags();
            if (flags.contains(javax.lang.model.element.Modifier.STATIC)) {
                due.isTrue(tree + " is final", flags.contains(javax.lang.model.element.Modifier.FINAL));
                due.isTrue(tree + " is a number or a written row", STATIC_TYPES.contains(tree.getType().toString()));
            }
            return super.visitVariable(tree, none);
        }

        @Override
        public Void visitMethod(MethodTree tree, Void none) {
            due.isTrue(tree.getName() + " is short", linesOf(tree) <= MOST_LINES);
            due.isTrue(tree.getName() + " takes few parameters", tree.getParameters().size() <= MOST_PARAMETERS);
            return super.visitMethod(tree, none);
        }

        @Override
        public Void visitThrow(ThrowTree tree, Void none) {
            boolean known = tree.getExpression() instanceof NewClassTree made
                    && EXCEPTIONS.contains(made.getIdentifier().toString());
            due.isTrue(tree + " throws a listed exception", known);
            boolean inConstructor = false;
            for (TreePath path = getCurrentPath(); path != null; path = path.getParentPath()) {
                inConstructor |= path.getLeaf() instanceof MethodTree method
                        && method.getName().contentEquals("<init>");
            }
            due.isTrue(tree + " stands in no constructor", !inConstructor);
            return super.visitThrow(tree, none);
        }

        @Override
        public Void visitNewClass(NewClassTree tree, Void none) {
            due.isTrue(tree + " is not made in a method", isThrown() || isInConstructorOrField());
            return super.visitNewClass(tree, none);
        }

        @Override
        public Void visitNewArray(NewArrayTree tree, Void none) {
            due.isTrue(tree + " is not made in a method", isInConstructorOrField());
            return super.visitNewArray(tree, none);
        }

        private boolean isThrown() {
            return getCurrentPath().getParentPath().getLeaf() instanceof ThrowTree;
        }

        private boolean isInConstructorOrField() {
            for (TreePath path = getCurrentPath(); path != null; path = path.getParentPath()) {
                if (path.getLeaf() instanceof MethodTree method) {
                    return method.getName().contentEquals("<init>");
                }
            }
            return true;
        }

        @Override
        public Void visitImport(ImportTree tree, Void none) {
            due.isTrue(tree + " is of what is thrown",
                    tree.getQualifiedIdentifier().toString().equals("java.util.NoSuchElementException"));
            return super.visitImport(tree, none);
        }

        @Override
        public Void visitLambdaExpression(LambdaExpressionTree tree, Void none) {
            refuse(tree.toString());
            return null;
        }

        @Override
        public Void visitMemberReference(MemberReferenceTree tree, Void none) {
            refuse(tree.toString());
            return null;
        }

        @Override
        public Void visitSynchronized(SynchronizedTree tree, Void none) {
            refuse(tree.toString());
            return null;
        }

        @Override
        public Void visitAssert(AssertTree tree, Void none) {
            refuse(tree.toString());
            return null;
        }

        @Override
        public Void visitAnnotation(AnnotationTree tree, Void none) {
            refuse(tree.toString());
            return null;
        }

        @Override
        public Void visitTry(TryTree tree, Void none) {
            refuse(tree.toString());
            return null;
        }
    }
}
