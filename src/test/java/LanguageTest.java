import com.sun.source.tree.BlockTree;
import com.sun.source.tree.BinaryTree;
import com.sun.source.tree.ClassTree;
import com.sun.source.tree.CompilationUnitTree;
import com.sun.source.tree.CompoundAssignmentTree;
import com.sun.source.tree.MethodInvocationTree;
import com.sun.source.tree.MethodTree;
import com.sun.source.tree.NewClassTree;
import com.sun.source.tree.Tree;
import com.sun.source.util.JavacTask;
import com.sun.source.util.SourcePositions;
import com.sun.source.util.TreePathScanner;
import com.sun.source.util.Trees;
import java.io.IOException;
import java.nio.file.Path;
import java.util.ArrayList;
import java.util.HashSet;
import java.util.List;
import java.util.Map;
import java.util.Set;
import java.util.TreeMap;
import java.util.TreeSet;
import javax.lang.model.element.Element;
import javax.lang.model.element.TypeElement;
import javax.tools.JavaCompiler;
import javax.tools.StandardJavaFileManager;
import javax.tools.ToolProvider;

// Rules of LANGUAGE.md that can be told from the source as the compiler reads it: which calls it
// makes, how deep they go, how long the methods are. Words and names are FaceTest's.
public final class LanguageTest {
    private static final Path SOURCE = Path.of("src/main/java/SkewedSquare.java");
    private static final int MOST_LINES = 60;
    private static final int MOST_PARAMETERS = 7;
    private static final int MOST_DEEP = 8;
    private static final Set<String> LIBRARY = Set.of(
        "java.lang.Object.<init>", "java.lang.Enum.<init>", "java.lang.Record.<init>",
        "java.lang.String.length", "java.lang.String.charAt", "java.lang.String.isEmpty",
        "java.lang.String.equals", "java.lang.String.indexOf", "java.lang.String.substring",
        "java.lang.String.toCharArray", "java.lang.String.<init>",
        "java.lang.StringBuilder.<init>", "java.lang.StringBuilder.append",
        "java.lang.StringBuilder.charAt", "java.lang.StringBuilder.setCharAt",
        "java.lang.StringBuilder.setLength", "java.lang.StringBuilder.deleteCharAt",
        "java.lang.StringBuilder.reverse", "java.lang.StringBuilder.length",
        "java.lang.StringBuilder.toString", "java.lang.System.arraycopy",
        "java.util.Arrays.copyOf", "java.util.Arrays.copyOfRange", "java.util.Arrays.fill");
    private static final Set<String> LIST_CALLS = Set.of(
        "<init>", "add", "get", "set", "remove", "size", "isEmpty", "clear", "of");
    private static final Set<String> LISTS = Set.of("java.util.List", "java.util.ArrayList");
    private static final Set<String> NUMBERS = Set.of("java.lang.Integer", "java.lang.Long", "java.lang.Math");
    private static final Set<String> OBJECT_METHODS = Set.of("equals", "hashCode", "toString");

    private static final Reading READING = new Reading();

    private LanguageTest() {
    }

    public static void main(String[] args) throws IOException {
        READING.read(SOURCE);
        Check.runTestsOf(LanguageTest.class);
    }

    static void sourceIsRead() {
        Check.truth("there are methods", READING.calls.size() > 20);
        Check.truth("there are calls of the library", !READING.libraryCalls.isEmpty());
    }

    static void libraryCallsAreListed() {
        for (String call : READING.libraryCalls) {
            Check.truth(call + " is on the list of rule 4", isListed(call));
        }
    }

    private static boolean isListed(String call) {
        int dot = call.lastIndexOf('.');
        String type = call.substring(0, dot);
        String name = call.substring(dot + 1);
        return LIBRARY.contains(call)
            || LISTS.contains(type) && LIST_CALLS.contains(name)
            || NUMBERS.contains(type) && !name.endsWith("Exact");
    }

    static void textsAreNotJoinedByPlus() {
        Check.truth("texts are joined by + " + READING.joinedTexts + " times", READING.joinedTexts == 0);
    }

    static void noClassIsLocalOrAnonymous() {
        Check.truth("no class in a method: " + READING.classesInMethods, READING.classesInMethods.isEmpty());
    }

    static void noStaticInitialiserBlock() {
        Check.truth("static blocks: " + READING.staticBlocks, READING.staticBlocks == 0);
    }

    static void objectsHaveNoMethodsOfObject() {
        for (String method : READING.calls.keySet()) {
            String name = method.substring(method.indexOf('.') + 1, method.indexOf('('));
            Check.truth(method, !OBJECT_METHODS.contains(name));
        }
    }

    static void methodsAreShort() {
        for (Map.Entry<String, Integer> method : READING.lines.entrySet()) {
            Check.truth(method.getKey() + " has " + method.getValue() + " lines", method.getValue() <= MOST_LINES);
        }
    }

    static void methodsTakeFewParameters() {
        for (Map.Entry<String, Integer> method : READING.parameters.entrySet()) {
            Check.truth(method.getKey(), method.getValue() <= MOST_PARAMETERS);
        }
    }

    static void callsGoAtMostEightDeep() {
        for (String method : READING.calls.keySet()) {
            List<String> way = deepestWay(method, new HashSet<>());
            Check.truth(way.size() + " deep: " + way, way.size() <= MOST_DEEP);
        }
    }

    // A call back to a method that is open is a recursion, which rule 8 is for.
    private static List<String> deepestWay(String method, Set<String> open) {
        List<String> deepest = new ArrayList<>();
        open.add(method);
        for (String next : READING.calls.getOrDefault(method, Set.of())) {
            List<String> way = open.contains(next) ? List.of() : deepestWay(next, open);
            deepest = way.size() > deepest.size() ? way : deepest;
        }
        open.remove(method);
        List<String> whole = new ArrayList<>(List.of(method));
        whole.addAll(deepest);
        return whole;
    }

    // What the compiler's own reading of the source tells.
    private static final class Reading extends TreePathScanner<Void, String> {
        final Map<String, Set<String>> calls = new TreeMap<>();
        final Map<String, Integer> lines = new TreeMap<>();
        final Map<String, Integer> parameters = new TreeMap<>();
        final Set<String> libraryCalls = new TreeSet<>();
        final Set<String> classesInMethods = new TreeSet<>();
        int joinedTexts = 0;
        int staticBlocks = 0;
        private Trees trees;
        private CompilationUnitTree unit;

        void read(Path path) throws IOException {
            JavaCompiler compiler = ToolProvider.getSystemJavaCompiler();
            try (StandardJavaFileManager files = compiler.getStandardFileManager(null, null, null)) {
                JavacTask task = (JavacTask) compiler.getTask(null, files, null, List.of("-proc:none"), null,
                    files.getJavaFileObjects(path));
                Iterable<? extends CompilationUnitTree> units = task.parse();
                task.analyze();
                trees = Trees.instance(task);
                for (CompilationUnitTree each : units) {
                    unit = each;
                    scan(each, null);
                }
            }
        }

        @Override
        public Void visitClass(ClassTree tree, String method) {
            if (method != null) {
                classesInMethods.add(method);
            }
            return super.visitClass(tree, method);
        }

        @Override
        public Void visitBlock(BlockTree tree, String method) {
            staticBlocks += tree.isStatic() ? 1 : 0;
            return super.visitBlock(tree, method);
        }

        @Override
        public Void visitMethod(MethodTree tree, String method) {
            String name = nameOf(trees.getElement(getCurrentPath()));
            calls.put(name, new TreeSet<>());
            parameters.put(name, tree.getParameters().size());
            lines.put(name, linesOf(tree));
            return super.visitMethod(tree, name);
        }

        // A constructor that the compiler adds has no end in the source.
        private int linesOf(Tree tree) {
            SourcePositions positions = trees.getSourcePositions();
            long end = positions.getEndPosition(unit, tree);
            long first = unit.getLineMap().getLineNumber(positions.getStartPosition(unit, tree));
            return end < 0 ? 0 : (int) (unit.getLineMap().getLineNumber(end) - first + 1);
        }

        @Override
        public Void visitMethodInvocation(MethodInvocationTree tree, String method) {
            addCall(method);
            return super.visitMethodInvocation(tree, method);
        }

        @Override
        public Void visitNewClass(NewClassTree tree, String method) {
            addCall(method);
            if (tree.getClassBody() != null) {
                classesInMethods.add("a body behind new " + tree.getIdentifier());
            }
            return super.visitNewClass(tree, method);
        }

        @Override
        public Void visitBinary(BinaryTree tree, String method) {
            joinedTexts += tree.getKind() == Tree.Kind.PLUS && isText() ? 1 : 0;
            return super.visitBinary(tree, method);
        }

        @Override
        public Void visitCompoundAssignment(CompoundAssignmentTree tree, String method) {
            joinedTexts += isText() ? 1 : 0;
            return super.visitCompoundAssignment(tree, method);
        }

        private boolean isText() {
            return trees.getTypeMirror(getCurrentPath()).toString().equals("java.lang.String");
        }

        private void addCall(String method) {
            Element called = trees.getElement(getCurrentPath());
            String type = ((TypeElement) called.getEnclosingElement()).getQualifiedName().toString();
            if (!type.startsWith("SkewedSquare")) {
                libraryCalls.add(type + "." + called.getSimpleName());
            } else if (method != null) {
                calls.get(method).add(nameOf(called));
            }
        }

        private static String nameOf(Element method) {
            return method.getEnclosingElement().getSimpleName() + "." + method;
        }
    }
}
