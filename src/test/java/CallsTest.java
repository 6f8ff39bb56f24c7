import com.sun.source.tree.ClassTree;
import com.sun.source.tree.CompilationUnitTree;
import com.sun.source.tree.ExpressionTree;
import com.sun.source.tree.MethodInvocationTree;
import com.sun.source.tree.MethodTree;
import com.sun.source.tree.NewClassTree;
import com.sun.source.util.JavacTask;
import com.sun.source.util.TreePath;
import com.sun.source.util.TreePathScanner;
import com.sun.source.util.Trees;
import java.io.IOException;
import java.nio.file.Path;
import java.util.ArrayList;
import java.util.HashSet;
import java.util.LinkedHashMap;
import java.util.List;
import java.util.Map;
import java.util.Set;
import java.util.TreeSet;
import javax.lang.model.element.Element;
import javax.lang.model.element.ElementKind;
import javax.lang.model.element.ExecutableElement;
import javax.lang.model.element.Modifier;
import javax.lang.model.element.TypeElement;
import javax.lang.model.util.Elements;
import javax.tools.JavaCompiler;
import javax.tools.StandardJavaFileManager;
import javax.tools.ToolProvider;

/**
 * Which method of the program calls which: none calls itself, none goes too deep (the library's functions counted
 * too), no constructor calls a method or hands a part of its object out, and the library is the listed one.
 */
public final class CallsTest {
    private static final int DEEPEST = 8;
    private static final Set<String> LIBRARY = Set.of("java.lang.Math.min(int,int)", "java.lang.Math.max(int,int)",
            "java.lang.Math.abs(int)", "java.lang.Math.floorDiv(int,int)", "java.lang.Integer.signum(int)");

    private final Due due = new Due();
    private final Map<String, Set<String>> calls = new LinkedHashMap<>();
    private final Map<ExecutableElement, String> own = new LinkedHashMap<>();
    private final Set<String> library = new TreeSet<>();
    private final List<String> chain = new ArrayList<>();
    private List<String> longest = new ArrayList<>();

    public static void main(String[] args) throws IOException {
        CallsTest test = new CallsTest();
        test.read();
        test.library();
        test.depth();
        test.used();
        test.constructors();
        test.due.finish();
    }

    private void read() throws IOException {
        JavaCompiler compiler = ToolProvider.getSystemJavaCompiler();
        try (StandardJavaFileManager files = compiler.getStandardFileManager(null, null, null)) {
            JavacTask task = (JavacTask) compiler.getTask(null, files, null, null, null,
                    files.getJavaFileObjects(Path.of("src/main/java/StitchDesk.java")));
            Iterable<? extends CompilationUnitTree> units = task.parse();
            task.analyze();
            Scan scan = new Scan(Trees.instance(task));
            for (CompilationUnitTree unit : units) {
                scan.scan(unit, null);
            }
            addImplementations(task.getElements());
        }
    }

    private static String nameOf(ExecutableElement method) {
        return method.getEnclosingElement() + "." + method;
    }

    /** A call of an interface's method may be one of each method that stands for it. */
    private void addImplementations(Elements elements) {
        for (ExecutableElement method : own.keySet()) {
            for (ExecutableElement mate : own.keySet()) {
                if (method != mate && elements.overrides(mate, method, (TypeElement) mate.getEnclosingElement())) {
                    calls.get(own.get(method)).add(own.get(mate));
                }
            }
        }
    }

    private void library() {
        for (String name : library) {
            due.isTrue(name + " is of the library that is used", LIBRARY.contains(name));
        }
    }

    private void depth() {
        for (String name : calls.keySet()) {
            follow(name);
        }
        due.isTrue("at most " + DEEPEST + " calls deep, not " + longest, deepOf(longest) <= DEEPEST);
    }

    private void follow(String name) {
        due.isTrue(name + " does not call itself by " + chain, !chain.contains(name));
        if (chain.contains(name)) {
            return;
        }
        chain.add(name);
        if (deepOf(chain) > deepOf(longest)) {
            longest = new ArrayList<>(chain);
        }
        for (String next : calls.getOrDefault(name, Set.of())) {
            follow(next);
        }
        chain.remove(chain.size() - 1);
    }

    /** An interface's method is no call of its own beside the one that stands for it. */
    private static int deepOf(List<String> names) {
        int deep = 0;
        for (String name : names) {
            deep += name.startsWith("StitchDesk.RunTaker.") ? 0 : 1;
        }
        return deep;
    }

    private void used() {
        Set<String> called = new HashSet<>();
        calls.values().forEach(called::addAll);
        for (Map.Entry<ExecutableElement, String> method : own.entrySet()) {
            boolean seen = method.getKey().getModifiers().contains(Modifier.PUBLIC);
            due.isTrue(method.getValue() + " is called", seen || called.contains(method.getValue()));
        }
    }

    /** A constructor calls nothing that could be overridden: it makes objects, and that is all. */
    private void constructors() {
        Set<String> names = new HashSet<>();
        for (Map.Entry<ExecutableElement, String> method : own.entrySet()) {
            if (method.getKey().getKind() == ElementKind.CONSTRUCTOR) {
                names.add(method.getValue());
            }
        }
        for (String name : names) {
            due.isTrue(name + " calls constructors alone, not " + calls.get(name), names.containsAll(calls.get(name)));
        }
    }

    private final class Scan extends TreePathScanner<Void, Void> {
        private final Trees trees;

        private Scan(Trees trees) {
            this.trees = trees;
        }

        @Override
        public Void visitMethod(MethodTree tree, Void none) {
            ExecutableElement method = (ExecutableElement) trees.getElement(getCurrentPath());
            own.put(method, nameOf(method));
            calls.computeIfAbsent(nameOf(method), name -> new TreeSet<>());
            return super.visitMethod(tree, none);
        }

        @Override
        public Void visitMethodInvocation(MethodInvocationTree tree, Void none) {
            note(new TreePath(getCurrentPath(), tree.getMethodSelect()));
            return super.visitMethodInvocation(tree, none);
        }

        @Override
        public Void visitNewClass(NewClassTree tree, Void none) {
            note(getCurrentPath());
            keepsToItself(tree.getArguments());
            return super.visitNewClass(tree, none);
        }

        /** A constructor hands out nothing of the object that it makes: objects are made of constants alone. */
        private void keepsToItself(List<? extends ExpressionTree> arguments) {
            for (ExpressionTree argument : arguments) {
                Element element = trees.getElement(new TreePath(getCurrentPath(), argument));
                boolean isField = element != null && element.getKind() == ElementKind.FIELD
                        && !element.getModifiers().contains(Modifier.STATIC);
                boolean isPart = isField || argument.toString().startsWith("this");
                due.isTrue(argument + " is not handed out by " + caller(), !isPart);
            }
        }

        private void note(TreePath called) {
            if (!(trees.getElement(called) instanceof ExecutableElement method)) {
                due.isTrue(called.getLeaf() + " is known", false);
                return;
            }
            String name = nameOf(method);
            boolean isOwn = name.startsWith("StitchDesk");
            boolean isMade = method.getKind() == ElementKind.CONSTRUCTOR;
            if (isMade && !isOwn) {
                // An exception, or the class Object beneath each class: LanguageTest looks at what is thrown.
                return;
            }
            if (!isOwn) {
                library.add(name);
            }
            calls.computeIfAbsent(caller(), unknown -> new TreeSet<>()).add(name);
        }

        /** The method that the call stands in; the constructor, if it makes a field of a class. */
        private String caller() {
            for (TreePath path = getCurrentPath(); path != null; path = path.getParentPath()) {
                if (path.getLeaf() instanceof MethodTree) {
                    return nameOf((ExecutableElement) trees.getElement(path));
                }
                if (path.getLeaf() instanceof ClassTree made) {
                    return trees.getElement(path) + "." + made.getSimpleName() + "()";
                }
            }
            return "";
        }
    }
}
