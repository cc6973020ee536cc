import com.sun.source.tree.MethodInvocationTree;
import com.sun.source.tree.MethodTree;
import com.sun.source.tree.NewClassTree;
import com.sun.source.tree.Tree;
import com.sun.source.util.JavacTask;
import com.sun.source.util.TreePathScanner;
import com.sun.source.util.Trees;
import java.io.File;
import java.io.IOException;
import java.util.HashMap;
import java.util.LinkedHashMap;
import java.util.LinkedHashSet;
import java.util.List;
import java.util.Map;
import java.util.Set;
import javax.lang.model.element.Element;
import javax.lang.model.element.ElementKind;
import javax.lang.model.element.Modifier;
import javax.tools.JavaCompiler;
import javax.tools.StandardJavaFileManager;
import javax.tools.ToolProvider;

/**
 * Which method calls which: the library's are those that rule 4 lists, recursion is among private methods alone (rule 8),
 * other calls go not too deep (rule 11).
 */
public final class CallsTest {
    private static final int DEEPEST = 8;
    // What the class uses of what rule 4 allows; more may be put here, if it stands in the rule.
    private static final Set<String> LIBRARY = Set.of("Object.Object", "String.length", "String.charAt", "Integer.bitCount", "Math.min", "Math.max",
        "Math.floorDiv", "Math.floorMod", "System.arraycopy", "Arrays.fill");

    private final Map<Element, Set<Element>> calls = new LinkedHashMap<>();
    private final Map<Element, Integer> depths = new HashMap<>();

    private void scan(File source) throws IOException {
        JavaCompiler compiler = ToolProvider.getSystemJavaCompiler();
        StandardJavaFileManager files = compiler.getStandardFileManager(null, null, null);
        JavacTask task = (JavacTask) compiler.getTask(null, files, null, List.of("-proc:none"), null, files.getJavaFileObjects(source));
        var units = task.parse();
        task.analyze();
        Trees trees = Trees.instance(task);
        TreePathScanner<Void, Element> scanner = new TreePathScanner<>() {
            @Override
            public Void visitMethod(MethodTree tree, Element outer) {
                Element method = trees.getElement(getCurrentPath());
                calls.put(method, new LinkedHashSet<>());
                return super.visitMethod(tree, method);
            }

            @Override
            public Void visitMethodInvocation(MethodInvocationTree tree, Element from) {
                add(from);
                return super.visitMethodInvocation(tree, from);
            }

            @Override
            public Void visitNewClass(NewClassTree tree, Element from) {
                add(from);
                return super.visitNewClass(tree, from);
            }

            private void add(Element from) {
                Element to = trees.getElement(getCurrentPath());
                if (from != null && to != null) {
                    calls.get(from).add(to);
                }
            }
        };
        for (Tree unit : units) {
            scanner.scan(unit, null);
        }
    }

    private boolean reaches(Element from, Element to, Set<Element> seen) {
        for (Element next : calls.getOrDefault(from, Set.of())) {
            if (next.equals(to) || seen.add(next) && reaches(next, to, seen)) {
                return true;
            }
        }
        return false;
    }

    private boolean isRecursive(Element method) {
        return reaches(method, method, new LinkedHashSet<>());
    }

    /** How many calls that are no recursion stand open at once, this one among them; the library's own do not count. */
    private int depth(Element method, Set<Element> open) {
        if (!calls.containsKey(method) || !open.add(method)) {
            return 0;
        }
        int most = 0;
        for (Element next : calls.get(method)) {
            most = Math.max(most, depth(next, open));
        }
        open.remove(method);
        return most + (isRecursive(method) ? 0 : 1);
    }

    private static String name(Element method) {
        return method.getEnclosingElement().getSimpleName() + "." + method;
    }

    private static String shortName(Element method) {
        Element type = method.getEnclosingElement();
        return type.getSimpleName() + "." + (method.getKind() == ElementKind.CONSTRUCTOR ? type : method).getSimpleName();
    }

    private void libraryOf(Element method) {
        for (Element called : calls.get(method)) {
            if (!calls.containsKey(called) && !isOwnConstructor(called)) {
                Kit.due("rule 4, " + name(called) + " in " + name(method), LIBRARY.contains(shortName(called)), true);
            }
        }
    }

    /** One that is not written out: the compiler makes it. */
    private static boolean isOwnConstructor(Element method) {
        return method.getKind() == ElementKind.CONSTRUCTOR && method.getEnclosingElement().toString().startsWith("RotaMuseum");
    }

    public static void main(String[] args) throws IOException {
        CallsTest test = new CallsTest();
        test.scan(new File("src/main/java/RotaMuseum.java"));
        int recursive = 0;
        for (Element method : test.calls.keySet()) {
            test.libraryOf(method);
            if (test.isRecursive(method)) {
                recursive++;
                Kit.due("rule 8, private: " + name(method), method.getModifiers().contains(Modifier.PRIVATE), true);
            }
            if (method.getModifiers().contains(Modifier.PUBLIC) && method.getKind() == ElementKind.METHOD) {
                int depth = test.depth(method, new LinkedHashSet<>());
                Kit.due("rule 11, " + depth + " calls open at once: " + name(method), depth <= DEEPEST, true);
                if (args.length > 0) {
                    System.out.println(depth + " " + name(method));
                }
            }
        }
        Kit.due("the recursion is seen", recursive > 5, true);
        Kit.due("all methods are seen", test.calls.size() > 100, true);
        Kit.finish("CallsTest");
    }
}
