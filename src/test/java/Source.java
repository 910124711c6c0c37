import com.sun.source.tree.ClassTree;
import com.sun.source.tree.CompilationUnitTree;
import com.sun.source.tree.MethodInvocationTree;
import com.sun.source.tree.MethodTree;
import com.sun.source.tree.Tree;
import com.sun.source.util.JavacTask;
import com.sun.source.util.TreePath;
import com.sun.source.util.TreePathScanner;
import com.sun.source.util.Trees;
import java.io.File;
import java.io.IOException;
import java.util.HashMap;
import java.util.LinkedHashMap;
import java.util.LinkedHashSet;
import java.util.List;
import java.util.Map;
import java.util.Set;
import javax.lang.model.element.Element;
import javax.lang.model.element.ExecutableElement;
import javax.lang.model.type.TypeMirror;
import javax.tools.JavaCompiler;
import javax.tools.StandardJavaFileManager;
import javax.tools.ToolProvider;

/** A Java file as javac reads it, with what its names stand for, and which of its methods call which. */
final class Source {
    final CompilationUnitTree unit;
    private final Trees trees;
    private final Map<String, Set<String>> calls = new LinkedHashMap<>();

    Source(String file) throws IOException {
        JavaCompiler compiler = ToolProvider.getSystemJavaCompiler();
        StandardJavaFileManager files = compiler.getStandardFileManager(null, null, null);
        JavacTask task = (JavacTask) compiler.getTask(null, files, null, List.of("-proc:none"), null,
                files.getJavaFileObjects(new File(file)));
        unit = task.parse().iterator().next();
        task.analyze();
        trees = Trees.instance(task);
        new Callers().scan(unit, null);
    }

    Element elementOf(TreePath path) {
        return trees.getElement(path);
    }

    TypeMirror typeOf(TreePath path) {
        return trees.getTypeMirror(path);
    }

    long lineOf(Tree part) {
        return unit.getLineMap().getLineNumber(trees.getSourcePositions().getStartPosition(unit, part));
    }

    long linesOf(Tree part) {
        long end = trees.getSourcePositions().getEndPosition(unit, part);
        return unit.getLineMap().getLineNumber(end) - lineOf(part) + 1;
    }

    /** Whether a type is one of the file's own classes. */
    boolean isOwn(String type) {
        String outermost = ((ClassTree) unit.getTypeDecls().get(0)).getSimpleName().toString();
        return type.equals(outermost) || type.startsWith(outermost + ".");
    }

    Set<String> methods() {
        return calls.keySet();
    }

    static String nameOf(Element method) {
        return method.getEnclosingElement() + "." + method;
    }

    /** How many calls stand open at once below a method, itself and the library's counted; 1000 and more, if it recurs. */
    int depthOf(String method) {
        return depthOf(method, new HashMap<>());
    }

    private int depthOf(String method, Map<String, Integer> known) {
        if (!known.containsKey(method)) {
            // Till its own depth is known, a method that is met again below itself recurs.
            known.put(method, 1000);
            int deepest = 0;
            for (String called : calls.getOrDefault(method, Set.of())) {
                deepest = Math.max(deepest, depthOf(called, known));
            }
            known.put(method, deepest + 1);
        }
        return known.get(method);
    }

    private final class Callers extends TreePathScanner<Void, String> {
        @Override
        public Void visitMethod(MethodTree method, String above) {
            String name = nameOf(elementOf(getCurrentPath()));
            calls.put(name, new LinkedHashSet<>());
            return super.visitMethod(method, name);
        }

        @Override
        public Void visitMethodInvocation(MethodInvocationTree call, String method) {
            Element called = elementOf(getCurrentPath());
            if (method != null && called instanceof ExecutableElement) {
                calls.get(method).add(nameOf(called));
            }
            return super.visitMethodInvocation(call, method);
        }
    }
}
