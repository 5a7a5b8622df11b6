import com.sun.source.tree.ClassTree;
import com.sun.source.tree.CompilationUnitTree;
import com.sun.source.tree.LambdaExpressionTree;
import com.sun.source.tree.LineMap;
import com.sun.source.tree.MemberReferenceTree;
import com.sun.source.tree.MethodInvocationTree;
import com.sun.source.tree.MethodTree;
import com.sun.source.tree.NewClassTree;
import com.sun.source.tree.TryTree;
import com.sun.source.tree.VariableTree;
import com.sun.source.util.JavacTask;
import com.sun.source.util.SourcePositions;
import com.sun.source.util.TreePathScanner;
import com.sun.source.util.Trees;
import java.io.IOException;
import java.nio.file.Files;
import java.nio.file.Path;
import java.util.HashMap;
import java.util.HashSet;
import java.util.List;
import java.util.Map;
import java.util.Set;
import java.util.TreeMap;
import java.util.TreeSet;
import javax.lang.model.element.Element;
import javax.lang.model.element.Modifier;
import javax.tools.JavaCompiler;
import javax.tools.StandardJavaFileManager;
import javax.tools.ToolProvider;

/** Rules of ../shared/LANGUAGE.md that can be read off the source: its library, its sizes, and how deep calls go. */
public final class LanguageTest extends Check {
    private static final Path SOURCE = Path.of("src/main/java/OpenclassYard.java");
    private static final Set<String> LIBRARY = Set.of("java.lang.Math.max", "java.lang.Math.min", "java.lang.String.charAt", "java.lang.String.length",
            "java.util.Arrays.copyOf", "java.lang.Object.Object", "java.lang.Enum.Enum", "new ArithmeticException", "new IllegalArgumentException",
            "new IllegalStateException", "new IndexOutOfBoundsException", "new NoSuchElementException", "new UnsupportedOperationException");

    private static final Map<String, Set<String>> CALLS = new TreeMap<>();
    private static final Map<String, Integer> DEPTHS = new HashMap<>();
    private static final Set<String> OPEN = new HashSet<>();
    private static final Set<String> PUBLIC = new TreeSet<>();
    private static final Set<String> OTHERS = new TreeSet<>();
    private static int classes = 0;

    public static void main(String[] args) throws IOException {
        for (char sign : Files.readString(SOURCE).toCharArray()) {
            if (sign > 126) {
                due("4: a sign", (int) sign, 126);
            }
        }
        JavaCompiler compiler = ToolProvider.getSystemJavaCompiler();
        StandardJavaFileManager files = compiler.getStandardFileManager(null, null, null);
        JavacTask task = (JavacTask) compiler.getTask(null, files, null, List.of(), null, files.getJavaFileObjects(SOURCE));
        Iterable<? extends CompilationUnitTree> units = task.parse();
        task.analyze();
        for (CompilationUnitTree unit : units) {
            new Reader(unit, Trees.instance(task)).scan(unit, null);
        }
        due("11: at most twelve classes", classes <= 12, true);
        for (String method : PUBLIC) {
            due("11: calls of " + method + " go at most eight deep", depth(method) <= 8, true);
            due("1: no private method has the name of " + method, OTHERS.contains(name(method)), false);
        }
        due("1: the whole face", PUBLIC.size(), 62);
        end();
    }

    private static String name(String method) {
        String bare = method.substring(0, method.indexOf('('));
        return bare.substring(bare.lastIndexOf('.') + 1);
    }

    private static int depth(String method) {
        if (DEPTHS.containsKey(method)) {
            return DEPTHS.get(method);
        }
        due("8: " + method + " calls itself", OPEN.add(method), true);
        int deepest = 0;
        for (String called : CALLS.getOrDefault(method, Set.of())) {
            deepest = OPEN.contains(called) ? 1000 : Math.max(deepest, depth(called));
        }
        OPEN.remove(method);
        DEPTHS.put(method, deepest + 1);
        return deepest + 1;
    }

    private static final class Reader extends TreePathScanner<Void, Void> {
        private final CompilationUnitTree unit;
        private final Trees trees;
        private String method = "";

        Reader(CompilationUnitTree unit, Trees trees) {
            this.unit = unit;
            this.trees = trees;
        }

        @Override
        public Void visitClass(ClassTree tree, Void none) {
            classes++;
            long fields = tree.getMembers().stream().filter(m -> m instanceof VariableTree v && !v.getModifiers().getFlags().contains(Modifier.STATIC)).count();
            due("11: fields of " + tree.getSimpleName(), fields <= 20, true);
            return super.visitClass(tree, none);
        }

        @Override
        public Void visitMethod(MethodTree tree, Void none) {
            Element element = trees.getElement(getCurrentPath());
            String before = method;
            method = element.getEnclosingElement() + "." + element;
            SourcePositions at = trees.getSourcePositions();
            LineMap lines = unit.getLineMap();
            long length = lines.getLineNumber(at.getEndPosition(unit, tree)) - lines.getLineNumber(at.getStartPosition(unit, tree)) + 1;
            due("11: lines of " + method, length <= 60, true);
            due("11: parameters of " + method, tree.getParameters().size() <= 7, true);
            if (element.getModifiers().contains(Modifier.PUBLIC)) {
                PUBLIC.add(method);
            } else {
                OTHERS.add(tree.getName().toString());
            }
            CALLS.computeIfAbsent(method, key -> new TreeSet<>());
            super.visitMethod(tree, none);
            method = before;
            return null;
        }

        @Override
        public Void visitMethodInvocation(MethodInvocationTree tree, Void none) {
            Element element = trees.getElement(getCurrentPath());
            String called = element.getEnclosingElement() + "." + element;
            if (called.startsWith("OpenclassYard")) {
                CALLS.computeIfAbsent(method, key -> new TreeSet<>()).add(called);
            } else {
                String bare = called.substring(0, called.indexOf('('));
                due("4: " + called, LIBRARY.contains(bare), true);
            }
            return super.visitMethodInvocation(tree, none);
        }

        @Override
        public Void visitNewClass(NewClassTree tree, Void none) {
            Element element = trees.getElement(getCurrentPath());
            boolean isOwn = element.getEnclosingElement().toString().startsWith("OpenclassYard");
            due("4: new " + tree.getIdentifier(), isOwn || LIBRARY.contains("new " + tree.getIdentifier()), true);
            return super.visitNewClass(tree, none);
        }

        @Override
        public Void visitLambdaExpression(LambdaExpressionTree tree, Void none) {
            due("2: a lambda in " + method, true, false);
            return null;
        }

        @Override
        public Void visitMemberReference(MemberReferenceTree tree, Void none) {
            due("2: a method reference in " + method, true, false);
            return null;
        }

        @Override
        public Void visitTry(TryTree tree, Void none) {
            due("6: a try in " + method, true, false);
            return null;
        }
    }
}
