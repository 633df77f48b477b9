import com.sun.source.tree.CompilationUnitTree;
import com.sun.source.tree.MethodInvocationTree;
import com.sun.source.tree.MethodTree;
import com.sun.source.tree.NewClassTree;
import com.sun.source.util.JavacTask;
import com.sun.source.util.TreePathScanner;
import com.sun.source.util.Trees;
import java.io.IOException;
import java.nio.file.Path;
import java.util.ArrayDeque;
import java.util.ArrayList;
import java.util.HashMap;
import java.util.HashSet;
import java.util.LinkedHashMap;
import java.util.LinkedHashSet;
import java.util.List;
import java.util.Map;
import java.util.Set;
import javax.lang.model.element.Element;
import javax.tools.JavaCompiler;
import javax.tools.StandardJavaFileManager;
import javax.tools.ToolProvider;

/**
 * Rule 11 of LANGUAGE.md: calls that are no recursion go at most eight deep. The
 * class's own methods and constructors are counted, the public one as the first,
 * methods that call one another as one. Runs in the project's folder.
 */
public final class CallDepth {
    private static final int MOST = 8;
    private static final Set<String> RECURSIVE = Set.of("putHeldWhile", "putItems", "putOccurrence");

    private final Map<Element, Set<Element>> calls = new LinkedHashMap<>();
    private final Map<Element, Set<Element>> reached = new HashMap<>();
    private final Map<Element, List<String>> longest = new HashMap<>();

    private void read(Path file) throws IOException {
        JavaCompiler compiler = ToolProvider.getSystemJavaCompiler();
        StandardJavaFileManager files = compiler.getStandardFileManager(null, null, null);
        JavacTask task = (JavacTask) compiler.getTask(null, files, null, List.of("-proc:none"), null,
            files.getJavaFileObjects(file));
        List<CompilationUnitTree> units = new ArrayList<>();
        task.parse().forEach(units::add);
        task.analyze();
        Trees trees = Trees.instance(task);
        TreePathScanner<Void, Element> scanner = new TreePathScanner<>() {
            @Override
            public Void visitMethod(MethodTree tree, Element outer) {
                Element method = trees.getElement(getCurrentPath());
                calls.put(method, new LinkedHashSet<>());
                return super.visitMethod(tree, method);
            }

            @Override
            public Void visitMethodInvocation(MethodInvocationTree tree, Element method) {
                note(method);
                return super.visitMethodInvocation(tree, method);
            }

            @Override
            public Void visitNewClass(NewClassTree tree, Element method) {
                note(method);
                return super.visitNewClass(tree, method);
            }

            private void note(Element method) {
                if (method != null) {
                    calls.get(method).add(trees.getElement(getCurrentPath()));
                }
            }
        };
        units.forEach(unit -> scanner.scan(unit, null));
        calls.values().forEach(called -> called.retainAll(calls.keySet()));
        files.close();
    }

    private Set<Element> reachedFrom(Element method) {
        return reached.computeIfAbsent(method, from -> {
            Set<Element> seen = new HashSet<>();
            ArrayDeque<Element> ways = new ArrayDeque<>(calls.get(from));
            while (!ways.isEmpty()) {
                Element next = ways.poll();
                if (seen.add(next)) {
                    ways.addAll(calls.get(next));
                }
            }
            return seen;
        });
    }

    private List<String> longestFrom(Element method) {
        if (longest.containsKey(method)) {
            return longest.get(method);
        }
        Set<Element> together = new LinkedHashSet<>(List.of(method));
        for (Element other : reachedFrom(method)) {
            if (reachedFrom(other).contains(method)) {
                together.add(other);
            }
        }
        List<String> best = List.of();
        for (Element one : together) {
            for (Element called : calls.get(one)) {
                if (!together.contains(called) && longestFrom(called).size() > best.size()) {
                    best = longestFrom(called);
                }
            }
        }
        List<String> way = new ArrayList<>(List.of(method.getEnclosingElement().getSimpleName() + "." + method));
        way.addAll(best);
        longest.put(method, way);
        return way;
    }

    public static void main(String[] args) throws IOException {
        CallDepth depth = new CallDepth();
        depth.read(Path.of("src/main/java/SnippetStops.java"));
        int wrong = 0;
        int deepest = 0;
        for (Element method : depth.calls.keySet()) {
            List<String> way = depth.longestFrom(method);
            deepest = Math.max(deepest, way.size());
            if (way.size() > MOST) {
                wrong++;
                System.out.println("rule 11: " + way.size() + " deep: " + way);
            }
            if (depth.reachedFrom(method).contains(method) && !RECURSIVE.contains(method.getSimpleName().toString())) {
                wrong++;
                System.out.println("rule 8: a recursion that is not known: " + method);
            }
        }
        System.out.println(depth.calls.size() + " methods, calls go " + deepest + " deep");
        if (wrong != 0 || deepest == 0) {
            System.exit(1);
        }
    }
}
