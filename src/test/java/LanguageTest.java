import com.sun.source.tree.ClassTree;
import com.sun.source.tree.CompilationUnitTree;
import com.sun.source.tree.MethodInvocationTree;
import com.sun.source.tree.MethodTree;
import com.sun.source.tree.NewClassTree;
import com.sun.source.tree.Tree;
import com.sun.source.tree.VariableTree;
import com.sun.source.util.JavacTask;
import com.sun.source.util.TreePath;
import com.sun.source.util.TreePathScanner;
import com.sun.source.util.Trees;
import java.io.File;
import java.io.IOException;
import java.lang.reflect.Constructor;
import java.lang.reflect.Field;
import java.lang.reflect.Method;
import java.lang.reflect.Modifier;
import java.util.ArrayList;
import java.util.Arrays;
import java.util.Collection;
import java.util.EnumSet;
import java.util.HashMap;
import java.util.HashSet;
import java.util.List;
import java.util.Map;
import java.util.Set;
import java.util.TreeSet;
import javax.lang.model.element.Element;
import javax.lang.model.element.ExecutableElement;
import javax.lang.model.element.TypeElement;
import javax.lang.model.util.Elements;
import javax.tools.JavaCompiler;
import javax.tools.StandardJavaFileManager;
import javax.tools.ToolProvider;

/** The face of the document, and those rules of LANGUAGE.md that can be read off the source. */
public final class LanguageTest {
    private static final File SOURCE = new File("src/main/java/BitWell.java");
    private static final Set<String> FACE = Set.of(
            "public final static int NONE",
            "public BitWell()",
            "public int feed(int, int, int, int, int)",
            "public int end(int)",
            "public int supply()",
            "public boolean tests(int, int, int)",
            "public int source(int)",
            "public int open(int, int, boolean, int)",
            "public boolean close(int)",
            "public int reseed(int, boolean)",
            "public int draw(int, int, int, boolean)",
            "public int drawn(int)",
            "public int generator(int, int)",
            "public int state(int, int, int)",
            "public int digest(boolean)",
            "public boolean cipher(boolean)",
            "public boolean mac(boolean)",
            "public boolean derive(int, int)",
            "public int size()");
    private static final Set<Tree.Kind> RULED_OUT = EnumSet.of(
            Tree.Kind.THROW, Tree.Kind.TRY, Tree.Kind.CATCH, Tree.Kind.SYNCHRONIZED, Tree.Kind.ASSERT,
            Tree.Kind.LAMBDA_EXPRESSION, Tree.Kind.MEMBER_REFERENCE);
    /** Of what rule 4 leaves, what a class of numbers and rows can need. */
    private static final Set<String> LIBRARY = Set.of(
            "java.lang.Object.<init>",
            "java.lang.Math.max", "java.lang.Math.min", "java.lang.Math.abs",
            "java.lang.Math.floorDiv", "java.lang.Math.floorMod",
            "java.lang.System.arraycopy",
            "java.util.Arrays.copyOf", "java.util.Arrays.copyOfRange", "java.util.Arrays.fill");

    private LanguageTest() {
    }

    public static void main(String[] args) throws IOException {
        face();
        JavaCompiler compiler = ToolProvider.getSystemJavaCompiler();
        try (StandardJavaFileManager files = compiler.getStandardFileManager(null, null, null)) {
            JavacTask task = (JavacTask) compiler.getTask(null, files, null, List.of("-proc:none"), null,
                    files.getJavaFileObjects(SOURCE));
            CompilationUnitTree unit = task.parse().iterator().next();
            task.analyze();
            Scan scan = new Scan(Trees.instance(task), task.getElements(), unit);
            scan.scan(unit, null);
            scan.judge();
        }
        Check.finish();
    }

    private static void face() {
        Class<?> type = BitWell.class;
        Check.same("the class", "public final", Modifier.toString(type.getModifiers()));
        Set<String> found = new TreeSet<>();
        Set<String> names = new HashSet<>();
        for (Field field : type.getDeclaredFields()) {
            if (!Modifier.isPrivate(field.getModifiers())) {
                found.add(Modifier.toString(field.getModifiers()).replace("static final", "final static") + " "
                        + field.getType() + " " + field.getName());
            }
        }
        for (Constructor<?> made : type.getDeclaredConstructors()) {
            found.add(Modifier.toString(made.getModifiers()) + " BitWell" + list(made.getParameterTypes()));
        }
        for (Method method : type.getDeclaredMethods()) {
            if (!Modifier.isPrivate(method.getModifiers())) {
                names.add(method.getName());
                found.add(Modifier.toString(method.getModifiers()) + " " + method.getReturnType() + " "
                        + method.getName() + list(method.getParameterTypes()));
            }
        }
        Check.same("the face", new TreeSet<>(FACE).toString(), found.toString());
        for (Class<?> inner : type.getDeclaredClasses()) {
            Check.isTrue(inner.getName() + " is static", Modifier.isStatic(inner.getModifiers()));
            Check.isTrue(inner.getName() + " is not public", !Modifier.isPublic(inner.getModifiers()));
        }
        for (Method method : type.getDeclaredMethods()) {
            Check.isTrue(method.getName() + " has a name of its own",
                    !Modifier.isPrivate(method.getModifiers()) || !names.contains(method.getName()));
        }
    }

    private static String list(Class<?>[] types) {
        return Arrays.toString(types).replace('[', '(').replace(']', ')');
    }

    /** Walks through the source once and keeps who calls whom. */
    private static final class Scan extends TreePathScanner<Void, Void> {
        private final Trees trees;
        private final Elements elements;
        private final CompilationUnitTree unit;
        private final Map<ExecutableElement, Set<ExecutableElement>> calls = new HashMap<>();
        private final Map<ExecutableElement, Integer> depths = new HashMap<>();
        private ExecutableElement method = null;
        private int classes = 0;

        Scan(Trees trees, Elements elements, CompilationUnitTree unit) {
            this.trees = trees;
            this.elements = elements;
            this.unit = unit;
        }

        @Override
        public Void scan(Tree tree, Void nothing) {
            if (tree != null && RULED_OUT.contains(tree.getKind())) {
                Check.fail("rule 2 or 6: " + tree.getKind() + " in line " + line(tree));
            }
            return super.scan(tree, nothing);
        }

        private long line(Tree tree) {
            return unit.getLineMap().getLineNumber(trees.getSourcePositions().getStartPosition(unit, tree));
        }

        private long lastLine(Tree tree) {
            return unit.getLineMap().getLineNumber(trees.getSourcePositions().getEndPosition(unit, tree));
        }

        @Override
        public Void visitClass(ClassTree tree, Void nothing) {
            classes++;
            int fields = 0;
            for (Tree member : tree.getMembers()) {
                Check.isTrue("rule 5: no initialiser block", member.getKind() != Tree.Kind.BLOCK);
                if (member instanceof VariableTree field) {
                    Collection<javax.lang.model.element.Modifier> marks = field.getModifiers().getFlags();
                    boolean isStatic = marks.contains(javax.lang.model.element.Modifier.STATIC);
                    Check.isTrue("rule 5: " + field.getName() + " is final",
                            !isStatic || marks.contains(javax.lang.model.element.Modifier.FINAL));
                    fields += isStatic ? 0 : 1;
                }
            }
            Check.isTrue("rule 11: fields of " + tree.getSimpleName(), fields <= 20);
            Check.isTrue("rule 2: a class with a name", tree.getSimpleName().length() > 0);
            return super.visitClass(tree, nothing);
        }

        @Override
        public Void visitMethod(MethodTree tree, Void nothing) {
            Check.isTrue("rule 11: parameters of " + tree.getName(), tree.getParameters().size() <= 7);
            Check.isTrue("rule 11: lines of " + tree.getName(), lastLine(tree) - line(tree) < 60);
            method = (ExecutableElement) trees.getElement(getCurrentPath());
            calls.put(method, new HashSet<>());
            super.visitMethod(tree, nothing);
            method = null;
            return null;
        }

        @Override
        public Void visitMethodInvocation(MethodInvocationTree tree, Void nothing) {
            note(trees.getElement(new TreePath(getCurrentPath(), tree.getMethodSelect())));
            return super.visitMethodInvocation(tree, nothing);
        }

        @Override
        public Void visitNewClass(NewClassTree tree, Void nothing) {
            note(trees.getElement(getCurrentPath()));
            return super.visitNewClass(tree, nothing);
        }

        private void note(Element called) {
            if (method != null && called instanceof ExecutableElement one) {
                calls.get(method).add(one);
            }
        }

        void judge() {
            Check.isTrue("rule 11: classes", classes <= 12);
            for (Set<ExecutableElement> called : calls.values()) {
                for (ExecutableElement one : called) {
                    String name = one.getEnclosingElement() + "." + one.getSimpleName();
                    Check.isTrue("rule 4: " + name, calls.containsKey(one) || LIBRARY.contains(name));
                }
            }
            for (ExecutableElement one : calls.keySet()) {
                Check.isTrue("rule 11: depth of calls from " + one + ": " + depth(one, new ArrayList<>()),
                        depth(one, new ArrayList<>()) <= 8);
            }
        }

        /** How many calls stand open at once, the library's counted too. */
        private int depth(ExecutableElement one, List<ExecutableElement> open) {
            if (open.contains(one)) {
                Check.fail("rule 8: " + one + " calls itself");
                return 0;
            }
            if (depths.containsKey(one)) {
                return depths.get(one);
            }
            open.add(one);
            int deepest = 0;
            for (ExecutableElement called : calls.getOrDefault(one, Set.of())) {
                deepest = Math.max(deepest, depth(called, open));
            }
            for (ExecutableElement other : calls.keySet()) {
                TypeElement owner = (TypeElement) other.getEnclosingElement();
                if (elements.overrides(other, one, owner)) {
                    deepest = Math.max(deepest, depth(other, open) - 1);
                }
            }
            open.remove(one);
            depths.put(one, deepest + 1);
            return deepest + 1;
        }
    }
}
