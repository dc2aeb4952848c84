import com.sun.source.tree.AnnotationTree;
import com.sun.source.tree.ClassTree;
import com.sun.source.tree.CompilationUnitTree;
import com.sun.source.tree.DoWhileLoopTree;
import com.sun.source.tree.ForLoopTree;
import com.sun.source.tree.MethodInvocationTree;
import com.sun.source.tree.MethodTree;
import com.sun.source.tree.NewArrayTree;
import com.sun.source.tree.NewClassTree;
import com.sun.source.tree.TypeCastTree;
import com.sun.source.tree.VariableTree;
import com.sun.source.tree.WhileLoopTree;
import com.sun.source.util.JavacTask;
import com.sun.source.util.TreePath;
import com.sun.source.util.TreePathScanner;
import com.sun.source.util.Trees;
import java.nio.file.Path;
import java.util.ArrayList;
import java.util.HashMap;
import java.util.HashSet;
import java.util.LinkedHashMap;
import java.util.LinkedHashSet;
import java.util.List;
import java.util.Map;
import java.util.Set;
import javax.lang.model.element.Element;
import javax.lang.model.element.ElementKind;
import javax.lang.model.element.ExecutableElement;
import javax.lang.model.element.Modifier;
import javax.lang.model.element.TypeElement;
import javax.lang.model.type.ArrayType;
import javax.lang.model.type.TypeKind;
import javax.lang.model.type.TypeMirror;
import javax.tools.JavaCompiler;
import javax.tools.StandardJavaFileManager;
import javax.tools.ToolProvider;

/**
 * ../shared/LANGUAGE.md once more, by the tree that the compiler makes of the source: which calls of
 * the library there are, what is made where, how loops end, and how deep calls go.
 */
public final class LanguageTreeTest {
    /** Rule 4, as far as the class uses it: what is used beyond it must be looked up there first. */
    private static final Set<String> LIBRARY = Set.of("java.lang.String.length", "java.lang.String.charAt",
        "java.lang.String.indexOf", "java.lang.Math.min", "java.lang.System.arraycopy",
        "java.util.Arrays.fill", "Array.clone");
    private static final int CALLS_DEEP = 8, OPEN_AT_ONCE = 300, FACTORS_OPEN = 6;

    public static void main(String[] args) throws Exception {
        Path root = Path.of(System.getProperty("root", "."));
        JavaCompiler compiler = ToolProvider.getSystemJavaCompiler();
        try (StandardJavaFileManager files = compiler.getStandardFileManager(null, null, null)) {
            JavacTask task = (JavacTask) compiler.getTask(null, files, null, List.of("-proc:none"), null,
                files.getJavaFileObjects(root.resolve("src/main/java/OverFence.java")));
            Iterable<? extends CompilationUnitTree> units = task.parse();
            task.analyze();
            Look look = new Look(task);
            for (CompilationUnitTree unit : units) look.scan(unit, null);
            look.depths();
        }
        Check.end();
    }

    private static final class Look extends TreePathScanner<Void, Void> {
        private final JavacTask task;
        private final Trees trees;
        private final Map<ExecutableElement, Set<ExecutableElement>> calls = new LinkedHashMap<>();
        private final Map<ExecutableElement, Set<ExecutableElement>> virtual = new LinkedHashMap<>();
        private ExecutableElement method;
        private int loops;

        Look(JavacTask task) {
            this.task = task;
            this.trees = Trees.instance(task);
        }

        private Element here() {
            return trees.getElement(getCurrentPath());
        }

        private boolean isOwn(Element e) {
            for (Element at = e; at != null; at = at.getEnclosingElement()) {
                if (at.getKind() == ElementKind.CLASS && at.getSimpleName().contentEquals("OverFence")) return true;
            }
            return false;
        }

        private void never(String what) {
            Check.holds("no " + what + " in " + method, false);
        }

        // ---- what there is

        @Override
        public Void visitClass(ClassTree tree, Void none) {
            TypeElement type = (TypeElement) here();
            Check.holds(type + " stands in OverFence or is it", type.getNestingKind().isNested()
                ? type.getModifiers().contains(Modifier.STATIC) && type.getEnclosingElement().getKind() == ElementKind.CLASS
                : type.getSimpleName().contentEquals("OverFence"));
            return super.visitClass(tree, none);
        }

        @Override
        public Void visitMethod(MethodTree tree, Void none) {
            method = (ExecutableElement) here();
            calls.put(method, new LinkedHashSet<>());
            virtual.put(method, new LinkedHashSet<>());
            Check.holds(method + " takes at most seven", tree.getParameters().size() <= 7);
            super.visitMethod(tree, none);
            method = null;
            return null;
        }

        @Override
        public Void visitVariable(VariableTree tree, Void none) {
            TypeMirror type = here().asType();
            int dimensions = 0;
            while (type.getKind() == TypeKind.ARRAY) {
                type = ((ArrayType) type).getComponentType();
                dimensions++;
            }
            boolean number = type.getKind() == TypeKind.INT || type.getKind() == TypeKind.LONG
                || type.getKind() == TypeKind.BYTE || type.getKind() == TypeKind.CHAR || type.getKind() == TypeKind.BOOLEAN;
            Element named = task.getTypes().asElement(type);
            boolean text = named != null && named.toString().equals("java.lang.String");
            Check.holds(tree.getName() + " is a number, a text, of an own class, or a row of such",
                number || text && dimensions == 0 || named != null && isOwn(named));
            Check.holds(tree.getName() + " has one dimension at most", dimensions <= 1);
            return super.visitVariable(tree, none);
        }

        @Override
        public Void visitAnnotation(AnnotationTree tree, Void none) {
            Check.holds("only @Override", tree.getAnnotationType().toString().equals("Override"));
            return super.visitAnnotation(tree, none);
        }

        @Override
        public Void visitMethodInvocation(MethodInvocationTree tree, Void none) {
            ExecutableElement called = (ExecutableElement) here();
            String text = tree.getMethodSelect().toString();
            if (isOwn(called)) {
                if (method != null) (text.startsWith("super") ? calls : virtual).get(method).add(called);
            } else if (called.getKind() != ElementKind.CONSTRUCTOR) {
                String name = called.getEnclosingElement() + "." + called.getSimpleName();
                Check.holds(name + " is of the library that there is", LIBRARY.contains(name));
            }
            return super.visitMethodInvocation(tree, none);
        }

        // ---- what is made, and loops

        @Override
        public Void visitNewClass(NewClassTree tree, Void none) {
            Check.holds(tree + " is of an own class", isOwn(here()));
            if (method != null) calls.get(method).add((ExecutableElement) here());
            Check.holds(tree + " is made in no loop", loops == 0);
            Check.holds(tree + " is no class without a name", tree.getClassBody() == null);
            return super.visitNewClass(tree, none);
        }

        @Override
        public Void visitNewArray(NewArrayTree tree, Void none) {
            Check.holds(tree + " is made once, with its object or its class", method == null);
            return super.visitNewArray(tree, none);
        }

        @Override
        public Void visitForLoop(ForLoopTree tree, Void none) {
            String until = tree.getCondition() == null ? "" : tree.getCondition().toString();
            Check.holds("a counter ends: for " + until, tree.getInitializer().size() == 1
                && tree.getUpdate().size() == 1 && until.matches(".*\\b\\w+ (<|<=|>=) .*"));
            loops++;
            super.visitForLoop(tree, none);
            loops--;
            return null;
        }

        @Override
        public Void visitWhileLoop(WhileLoopTree tree, Void none) {
            never("while");
            return null;
        }

        @Override
        public Void visitDoWhileLoop(DoWhileLoopTree tree, Void none) {
            never("do");
            return null;
        }

        @Override
        public Void visitTypeCast(TypeCastTree tree, Void none) {
            TypeMirror to = trees.getTypeMirror(new TreePath(getCurrentPath(), tree.getType()));
            Check.holds(tree + " is of numbers", to.getKind().isPrimitive());
            return super.visitTypeCast(tree, none);
        }

        // ---- how deep calls go

        void depths() {
            bindOverrides();
            Map<ExecutableElement, Set<ExecutableElement>> reached = new HashMap<>();
            for (ExecutableElement m : calls.keySet()) reached.put(m, reach(m));
            Set<String> again = new HashSet<>();
            for (ExecutableElement m : calls.keySet()) {
                if (reached.get(m).contains(m)) again.add(m.getSimpleName().toString());
            }
            Check.holds("only the reader of texts calls itself: " + again,
                again.equals(Set.of("readEither", "readBoth", "readFactor")));
            for (ExecutableElement m : calls.keySet()) {
                int deep = deep(m, reached);
                Check.holds(m + " goes " + deep + " deep", deep <= CALLS_DEEP);
                Check.holds(m + " stays under what may be open", deep + FACTORS_OPEN * again.size() < OPEN_AT_ONCE);
            }
        }

        /** A call may run the body of any class below, but for a call of super. */
        private void bindOverrides() {
            for (ExecutableElement from : virtual.keySet()) {
                for (ExecutableElement called : virtual.get(from)) {
                    calls.get(from).add(called);
                    for (ExecutableElement other : calls.keySet()) {
                        boolean below = task.getElements().overrides(other, called, (TypeElement) other.getEnclosingElement());
                        if (below) calls.get(from).add(other);
                    }
                }
            }
        }

        private Set<ExecutableElement> reach(ExecutableElement from) {
            Set<ExecutableElement> all = new HashSet<>();
            List<ExecutableElement> open = new ArrayList<>(calls.get(from));
            while (!open.isEmpty()) {
                ExecutableElement m = open.remove(open.size() - 1);
                if (all.add(m) && calls.containsKey(m)) open.addAll(calls.get(m));
            }
            return all;
        }

        /** The longest chain of calls from here on; those that call one another again count as one. */
        private int deep(ExecutableElement from, Map<ExecutableElement, Set<ExecutableElement>> reached) {
            Set<ExecutableElement> ring = new LinkedHashSet<>(Set.of(from));
            for (ExecutableElement m : reached.get(from)) {
                if (calls.containsKey(m) && reached.get(m).contains(from)) ring.add(m);
            }
            int most = 0;
            for (ExecutableElement m : ring) {
                for (ExecutableElement next : calls.get(m)) {
                    if (!ring.contains(next) && calls.containsKey(next)) most = Math.max(most, deep(next, reached));
                }
            }
            return most + 1;
        }
    }
}
