import com.sun.source.tree.ClassTree;
import com.sun.source.tree.CompilationUnitTree;
import com.sun.source.tree.MethodInvocationTree;
import com.sun.source.tree.MethodTree;
import com.sun.source.util.JavacTask;
import com.sun.source.util.TreePathScanner;
import com.sun.source.util.Trees;
import java.io.IOException;
import java.nio.file.Path;
import java.util.ArrayList;
import java.util.LinkedHashMap;
import java.util.LinkedHashSet;
import java.util.List;
import java.util.Map;
import java.util.Set;
import javax.lang.model.element.Element;
import javax.lang.model.element.ElementKind;
import javax.lang.model.element.ExecutableElement;
import javax.lang.model.element.Modifier;
import javax.lang.model.element.TypeElement;
import javax.lang.model.util.Elements;
import javax.tools.JavaCompiler;
import javax.tools.StandardJavaFileManager;
import javax.tools.ToolProvider;

/**
 * Rules of LANGUAGE.md that hang on which method calls which: only what rule 4 lists is called of the library, none but
 * methods that recur call themselves again, and other calls go at most eight deep (rule 11), the public one counted.
 */
public final class LanguageTest {
    private static final Path SOURCE = Path.of("src/main/java/IceKeys.java");
    private static final int DEEPEST = 8;
    /** Of rule 4 what the class uses; each of these stands there. */
    private static final Set<String> LISTED = Set.of("String.charAt", "String.length", "Math.abs", "Math.max", "Math.min",
        "Integer.bitCount", "System.arraycopy");
    /** Those that call themselves; each carries its depth (rule 8). */
    private static final Set<String> RECUR = Set.of("Plans.seek", "Plans.fewest", "Plans.reach", "Plans.duel");

    private final List<TypeElement> classes = new ArrayList<>();
    private final Map<ExecutableElement, Set<ExecutableElement>> calls = new LinkedHashMap<>();
    private Elements elements;

    public static void main(String[] args) throws IOException {
        LanguageTest test = new LanguageTest();
        test.read();
        test.library();
        test.depth();
        Check.end("LanguageTest");
    }

    private void read() throws IOException {
        JavaCompiler compiler = ToolProvider.getSystemJavaCompiler();
        try (StandardJavaFileManager files = compiler.getStandardFileManager(null, null, null)) {
            JavacTask task = (JavacTask) compiler.getTask(null, files, null, List.of("-proc:none"), null,
                files.getJavaFileObjects(SOURCE));
            Iterable<? extends CompilationUnitTree> units = task.parse();
            task.analyze();
            elements = task.getElements();
            // all classes first: which of them may run in place of another is asked at each call
            for (CompilationUnitTree unit : units) {
                new Classes(Trees.instance(task)).scan(unit, null);
                new Calls(Trees.instance(task)).scan(unit, null);
            }
        }
    }

    private final class Classes extends TreePathScanner<Void, Void> {
        private final Trees trees;

        Classes(Trees trees) {
            this.trees = trees;
        }

        @Override
        public Void visitClass(ClassTree tree, Void none) {
            classes.add((TypeElement) trees.getElement(getCurrentPath()));
            return super.visitClass(tree, none);
        }
    }

    /** For each method those that it names. */
    private final class Calls extends TreePathScanner<Void, Void> {
        private final Trees trees;
        private ExecutableElement within;

        Calls(Trees trees) {
            this.trees = trees;
        }

        @Override
        public Void visitMethod(MethodTree tree, Void none) {
            within = (ExecutableElement) trees.getElement(getCurrentPath());
            calls.put(within, new LinkedHashSet<>());
            super.visitMethod(tree, none);
            within = null;
            return null;
        }

        @Override
        public Void visitMethodInvocation(MethodInvocationTree tree, Void none) {
            Element called = trees.getElement(getCurrentPath());
            if (within != null && called instanceof ExecutableElement) {
                boolean ofSuper = tree.getMethodSelect().toString().startsWith("super");
                calls.get(within).addAll(ofSuper ? List.of((ExecutableElement) called) : runs((ExecutableElement) called));
            }
            return super.visitMethodInvocation(tree, none);
        }
    }

    /** A method, and those of classes under its own that may run in its place. */
    private List<ExecutableElement> runs(ExecutableElement called) {
        List<ExecutableElement> runs = new ArrayList<>(List.of(called));
        for (TypeElement c : classes) {
            for (Element member : c.getEnclosedElements()) {
                if (member.getKind() == ElementKind.METHOD && elements.overrides((ExecutableElement) member, called, c)) {
                    runs.add((ExecutableElement) member);
                }
            }
        }
        return runs;
    }

    private static String nameOf(ExecutableElement method) {
        return method.getEnclosingElement().getSimpleName() + "." + method.getSimpleName();
    }

    private void library() {
        Check.holds("methods were read: " + calls.size(), calls.size() > 150);
        for (Map.Entry<ExecutableElement, Set<ExecutableElement>> from : calls.entrySet()) {
            for (ExecutableElement to : from.getValue()) {
                String name = nameOf(to);
                Check.holds(nameOf(from.getKey()) + " calls " + name + ", which is its own or listed",
                    calls.containsKey(to) || LISTED.contains(name) || name.equals("Object.<init>"));
            }
        }
    }

    private void depth() {
        for (ExecutableElement method : calls.keySet()) {
            if (method.getModifiers().contains(Modifier.PUBLIC)) {
                List<ExecutableElement> open = new ArrayList<>();
                List<ExecutableElement> deepest = new ArrayList<>();
                go(method, open, deepest);
                Check.holds(names(deepest) + " is " + deepest.size() + " deep", deepest.size() <= DEEPEST);
            }
        }
    }

    /** Goes through all chains of calls from there; the longest one is kept. */
    private void go(ExecutableElement method, List<ExecutableElement> open, List<ExecutableElement> deepest) {
        open.add(method);
        if (open.size() > deepest.size()) {
            deepest.clear();
            deepest.addAll(open);
        }
        for (ExecutableElement to : calls.getOrDefault(method, Set.of())) {
            if (to.equals(method)) {
                Check.holds(nameOf(to) + " may call itself", RECUR.contains(nameOf(to)));
            } else if (open.contains(to)) {
                Check.holds("no others come round: " + names(open) + " " + nameOf(to), false);
            } else {
                go(to, open, deepest);
            }
        }
        open.remove(open.size() - 1);
    }

    private static String names(List<ExecutableElement> methods) {
        List<String> names = new ArrayList<>();
        for (ExecutableElement method : methods) {
            names.add(nameOf(method));
        }
        return String.join(" > ", names);
    }
}
