import com.sun.source.tree.CompilationUnitTree;
import com.sun.source.tree.MethodInvocationTree;
import com.sun.source.tree.MethodTree;
import com.sun.source.tree.NewClassTree;
import com.sun.source.util.JavacTask;
import com.sun.source.util.TreePathScanner;
import com.sun.source.util.Trees;
import java.nio.file.Path;
import java.util.ArrayList;
import java.util.HashMap;
import java.util.LinkedHashMap;
import java.util.LinkedHashSet;
import java.util.List;
import java.util.Map;
import java.util.Set;
import java.util.TreeSet;
import javax.lang.model.element.Element;
import javax.lang.model.element.ElementKind;
import javax.lang.model.element.Modifier;
import javax.lang.model.element.TypeElement;
import javax.tools.JavaCompiler;
import javax.tools.StandardJavaFileManager;
import javax.tools.ToolProvider;

/**
 * Rules 4, 8 and 11 of LANGUAGE.md, as the compiler reads the program: which members of the library it uses, that no
 * method leads to itself again, and that from each call of the face on at most eight calls stand open, that one, the
 * constructors and the library's own counted.
 */
public final class CallsTest {
    private static final int MOST_OPEN = 8;
    private static final Set<String> LIBRARY = Set.of(
            "ArrayList.<init>", "ArrayList.add", "ArrayList.get", "ArrayList.remove", "ArrayList.size",
            "System.arraycopy", "Integer.bitCount", "Math.max", "Math.min",
            "IndexOutOfBoundsException.<init>", "IllegalArgumentException.<init>", "IllegalStateException.<init>");

    private final Check check = new Check("CallsTest");
    private final Map<Element, Set<Element>> calls = new LinkedHashMap<>();
    private final Map<Element, Integer> depths = new HashMap<>();

    public static void main(String[] args) throws Exception {
        CallsTest test = new CallsTest();
        test.read(Path.of("src/main/java/NetLoom.java"));
        for (String used : test.usedOfLibrary()) {
            test.check.is("rule 4: " + used + " stands in the library", LIBRARY.contains(used), true);
        }
        int faces = 0;
        for (Element method : test.calls.keySet()) {
            if (method.getModifiers().contains(Modifier.PUBLIC)) {
                faces++;
                int depth = test.depth(method, new ArrayList<>());
                if (depth > MOST_OPEN) {
                    test.check.fail("rule 11: calls stand open " + depth + " deep: " + test.deepest(method));
                }
            }
        }
        test.check.is("calls of the face, with the constructor", faces, 31);
        test.check.end();
    }

    private void read(Path source) throws Exception {
        JavaCompiler compiler = ToolProvider.getSystemJavaCompiler();
        try (StandardJavaFileManager files = compiler.getStandardFileManager(null, null, null)) {
            JavacTask task = (JavacTask) compiler.getTask(null, files, null, List.of("-proc:none"), null,
                    files.getJavaFileObjects(source));
            Trees trees = Trees.instance(task);
            Iterable<? extends CompilationUnitTree> units = task.parse();
            task.analyze();
            for (CompilationUnitTree unit : units) {
                new Reader(trees).scan(unit, null);
            }
        }
    }

    private static String nameOf(Element method) {
        return method.getEnclosingElement().getSimpleName() + "." + method.getSimpleName();
    }

    private Set<String> usedOfLibrary() {
        Set<String> used = new TreeSet<>();
        for (Set<Element> called : calls.values()) {
            for (Element one : called) {
                if (!calls.containsKey(one)) {
                    used.add(nameOf(one));
                }
            }
        }
        return used;
    }

    /** How many calls stand open at most from this one on, itself counted. */
    private int depth(Element method, List<Element> open) {
        if (open.contains(method)) {
            check.fail("rule 8: " + nameOf(method) + " leads to itself");
            return 0;
        }
        if (!depths.containsKey(method)) {
            open.add(method);
            int below = 0;
            for (Element called : calls.getOrDefault(method, Set.of())) {
                below = Math.max(below, depth(called, open));
            }
            open.remove(method);
            depths.put(method, below + 1);
        }
        return depths.get(method);
    }

    private String deepest(Element from) {
        StringBuilder text = new StringBuilder(nameOf(from));
        Element at = from;
        while (at != null) {
            Element next = null;
            for (Element called : calls.getOrDefault(at, Set.of())) {
                if (next == null || depths.get(called) > depths.get(next)) {
                    next = called;
                }
            }
            text.append(next == null ? "" : ", " + nameOf(next));
            at = next;
        }
        return text.toString();
    }

    /** Notes, of each method, what it calls or makes; what fields begin with counts for the constructors. */
    private final class Reader extends TreePathScanner<Void, Void> {
        private final Trees trees;
        private Element method;

        Reader(Trees trees) {
            this.trees = trees;
        }

        @Override
        public Void visitMethod(MethodTree tree, Void nothing) {
            method = trees.getElement(getCurrentPath());
            calls.computeIfAbsent(method, m -> new LinkedHashSet<>());
            super.visitMethod(tree, nothing);
            method = null;
            return null;
        }

        @Override
        public Void visitMethodInvocation(MethodInvocationTree tree, Void nothing) {
            note(trees.getElement(getCurrentPath()));
            return super.visitMethodInvocation(tree, nothing);
        }

        @Override
        public Void visitNewClass(NewClassTree tree, Void nothing) {
            note(trees.getElement(getCurrentPath()));
            return super.visitNewClass(tree, nothing);
        }

        private void note(Element called) {
            boolean isObject = called.getEnclosingElement().toString().equals("java.lang.Object");
            if (method != null && !isObject) {
                calls.get(method).add(called);
            } else if (!isObject) {
                for (Element member : enclosingClass().getEnclosedElements()) {
                    if (member.getKind() == ElementKind.CONSTRUCTOR) {
                        calls.computeIfAbsent(member, m -> new LinkedHashSet<>()).add(called);
                    }
                }
            }
        }

        private Element enclosingClass() {
            Element at = null;
            for (var path = getCurrentPath(); path != null && !(at instanceof TypeElement); path = path.getParentPath()) {
                at = trees.getElement(path);
            }
            return at;
        }
    }
}
