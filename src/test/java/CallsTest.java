import com.sun.source.tree.ClassTree;
import com.sun.source.tree.CompilationUnitTree;
import com.sun.source.tree.DoWhileLoopTree;
import com.sun.source.tree.ForLoopTree;
import com.sun.source.tree.MethodInvocationTree;
import com.sun.source.tree.MethodTree;
import com.sun.source.tree.NewClassTree;
import com.sun.source.tree.VariableTree;
import com.sun.source.util.JavacTask;
import com.sun.source.util.TreePathScanner;
import com.sun.source.util.Trees;
import java.io.IOException;
import java.lang.reflect.Array;
import java.lang.reflect.Field;
import java.lang.reflect.Modifier;
import java.nio.file.Path;
import java.util.ArrayDeque;
import java.util.ArrayList;
import java.util.Collections;
import java.util.IdentityHashMap;
import java.util.LinkedHashMap;
import java.util.List;
import java.util.Map;
import java.util.Set;
import javax.lang.model.element.Element;
import javax.lang.model.element.ElementKind;
import javax.lang.model.element.ExecutableElement;
import javax.tools.JavaCompiler;
import javax.tools.StandardJavaFileManager;
import javax.tools.ToolProvider;

/** LANGUAGE.md as far as the source's tree and an object show it: how deep calls go, what of the library, how much room. */
public final class CallsTest {
    private static final int DEEPEST = 8;
    private static final int MOST_FIELDS = 20;
    private static final int MOST_OBJECTS = 700;
    private static final int MOST_ELEMENTS = 14_000;
    private static final Set<String> LIBRARY = Set.of("Math.min", "Math.max", "Integer.bitCount", "System.arraycopy",
        "Arrays.fill", "String.length", "String.charAt");
    /** Each carries how deep it is as an argument, or goes over a row of six councils at most. */
    private static final Set<String> RECURSIVE = Set.of("Law.readSum", "Law.readProduct", "Law.readUnit", "Law.readInner",
        "Law.readPair", "Plan.readSteps", "Plan.readStep", "Plan.readAgain", "Roster.give");

    private static final Map<Element, Set<Element>> CALLS = new LinkedHashMap<>();

    public static void main(String[] args) throws Exception {
        read(Path.of("src/main/java/ThroneBacks.java"));
        Checks.due("methods were read", CALLS.size() > 100 ? 1 : 0, 1);
        int deepest = 0;
        for (Element method : CALLS.keySet()) {
            List<String> chain = longest(method, new ArrayDeque<>());
            deepest = Math.max(deepest, chain.size());
            Checks.due("calls open at once: " + chain, Math.max(DEEPEST, chain.size()), DEEPEST);
            boolean recursive = reaches(method, method);
            Checks.due("recursion of " + name(method), recursive ? 1 : 0, RECURSIVE.contains(name(method)) ? 1 : 0);
        }
        System.out.println("calls go " + deepest + " deep");
        checkRoom();
        Checks.finish();
    }

    private static void read(Path source) throws IOException {
        JavaCompiler compiler = ToolProvider.getSystemJavaCompiler();
        try (StandardJavaFileManager files = compiler.getStandardFileManager(null, null, null)) {
            JavacTask task = (JavacTask) compiler.getTask(null, files, null, null, null, files.getJavaFileObjects(source));
            Iterable<? extends CompilationUnitTree> units = task.parse();
            task.analyze();
            for (CompilationUnitTree unit : units) {
                new Reader(Trees.instance(task)).scan(unit, null);
            }
        }
    }

    /** Puts down who calls whom, and looks at what is seen on the way. */
    private static final class Reader extends TreePathScanner<Void, Element> {
        private final Trees trees;

        Reader(Trees trees) {
            this.trees = trees;
        }

        private Element here() {
            return trees.getElement(getCurrentPath());
        }

        @Override
        public Void visitClass(ClassTree tree, Element in) {
            long fields = tree.getMembers().stream()
                .filter(t -> t instanceof VariableTree v && !v.getModifiers().toString().contains("static")).count();
            Checks.due("fields of " + tree.getSimpleName(), Math.max(MOST_FIELDS, fields), MOST_FIELDS);
            return super.visitClass(tree, in);
        }

        @Override
        public Void visitMethod(MethodTree tree, Element in) {
            Element method = here();
            CALLS.putIfAbsent(method, new java.util.LinkedHashSet<>());
            boolean face = tree.getModifiers().toString().contains("public");
            int many = tree.getParameters().size();
            Checks.due("parameters of " + tree.getName(), face ? 7 : Math.max(7, many), 7);
            return super.visitMethod(tree, method);
        }

        @Override
        public Void visitMethodInvocation(MethodInvocationTree tree, Element in) {
            meet((ExecutableElement) here(), in);
            return super.visitMethodInvocation(tree, in);
        }

        @Override
        public Void visitNewClass(NewClassTree tree, Element in) {
            Element made = here();
            if (isOwn(made) && in != null) {
                CALLS.get(in).add(made);
            }
            return super.visitNewClass(tree, in);
        }

        @Override
        public Void visitForLoop(ForLoopTree tree, Element in) {
            Checks.due("a for's bound in " + in, tree.getCondition() != null ? 1 : 0, 1);
            return super.visitForLoop(tree, in);
        }

        @Override
        public Void visitDoWhileLoop(DoWhileLoopTree tree, Element in) {
            Checks.due("a do in " + in, 1, 0);
            return super.visitDoWhileLoop(tree, in);
        }

        private void meet(ExecutableElement called, Element in) {
            boolean superCall = called.getKind() == ElementKind.CONSTRUCTOR;
            if (superCall || in == null) {
                return;
            }
            CALLS.get(in).add(called);
            boolean known = isOwn(called) || LIBRARY.contains(name(called));
            Checks.due("of the library: " + name(called), known ? 1 : 0, 1);
        }
    }

    private static boolean isOwn(Element e) {
        Element top = e;
        while (top.getEnclosingElement() != null && top.getEnclosingElement().getKind() != ElementKind.PACKAGE) {
            top = top.getEnclosingElement();
        }
        return top.getSimpleName().contentEquals("ThroneBacks");
    }

    private static String name(Element method) {
        return method.getEnclosingElement().getSimpleName() + "." + method.getSimpleName();
    }

    /** The longest chain of calls from here in which no method stands twice. */
    private static List<String> longest(Element from, ArrayDeque<Element> open) {
        open.push(from);
        List<String> best = new ArrayList<>();
        for (Element to : CALLS.getOrDefault(from, Set.of())) {
            if (!open.contains(to)) {
                List<String> chain = longest(to, open);
                best = chain.size() > best.size() ? chain : best;
            }
        }
        open.pop();
        best.add(0, name(from));
        return best;
    }

    private static boolean reaches(Element from, Element aim) {
        Set<Element> seen = Collections.newSetFromMap(new IdentityHashMap<>());
        ArrayDeque<Element> queue = new ArrayDeque<>(CALLS.getOrDefault(from, Set.of()));
        while (!queue.isEmpty()) {
            Element next = queue.remove();
            if (next == aim) {
                return true;
            }
            if (seen.add(next)) {
                queue.addAll(CALLS.getOrDefault(next, Set.of()));
            }
        }
        return false;
    }

    /** One object with all it holds: many of them must fit into the room of one run. */
    private static void checkRoom() throws IllegalAccessException {
        Set<Object> seen = Collections.newSetFromMap(new IdentityHashMap<>());
        ArrayDeque<Object> queue = new ArrayDeque<>();
        queue.add(new ThroneBacks());
        int elements = 0;
        while (!queue.isEmpty()) {
            Object next = queue.remove();
            if (seen.add(next)) {
                elements += next.getClass().isArray() ? elementsOf(next, queue) : fieldsOf(next, queue);
            }
        }
        System.out.println("an object holds " + seen.size() + " objects and arrays, " + elements + " fields and elements");
        Checks.due("objects and arrays", Math.max(MOST_OBJECTS, seen.size()), MOST_OBJECTS);
        Checks.due("fields and elements", Math.max(MOST_ELEMENTS, elements), MOST_ELEMENTS);
    }

    private static int elementsOf(Object array, ArrayDeque<Object> queue) {
        int many = Array.getLength(array);
        for (int i = 0; i < many && !array.getClass().getComponentType().isPrimitive(); i++) {
            queue.add(Array.get(array, i));
        }
        return many;
    }

    private static int fieldsOf(Object object, ArrayDeque<Object> queue) throws IllegalAccessException {
        int many = 0;
        for (Field field : object.getClass().getDeclaredFields()) {
            if (Modifier.isStatic(field.getModifiers())) {
                continue;
            }
            many++;
            field.setAccessible(true);
            if (!field.getType().isPrimitive()) {
                queue.add(field.get(object));
            }
        }
        return many;
    }
}
