import com.sun.source.tree.BinaryTree;
import com.sun.source.tree.ClassTree;
import com.sun.source.tree.CompilationUnitTree;
import com.sun.source.tree.MethodInvocationTree;
import com.sun.source.tree.MethodTree;
import com.sun.source.tree.ModifiersTree;
import com.sun.source.tree.NewArrayTree;
import com.sun.source.tree.NewClassTree;
import com.sun.source.tree.Tree;
import com.sun.source.tree.VariableTree;
import com.sun.source.util.JavacTask;
import com.sun.source.util.TreePath;
import com.sun.source.util.TreePathScanner;
import com.sun.source.util.Trees;
import java.io.IOException;
import java.nio.file.Path;
import java.util.EnumSet;
import java.util.LinkedHashMap;
import java.util.LinkedHashSet;
import java.util.Map;
import java.util.Set;
import javax.lang.model.element.Element;
import javax.lang.model.element.ElementKind;
import javax.lang.model.element.ExecutableElement;
import javax.lang.model.element.Modifier;
import javax.lang.model.element.VariableElement;
import javax.lang.model.util.ElementFilter;
import javax.tools.JavaCompiler;
import javax.tools.StandardJavaFileManager;
import javax.tools.ToolProvider;

/** The rules of LANGUAGE.md that need the code as the compiler understands it; the argument is the program's file. */
public final class CodeTest {
    private static final int DEEPEST = 8;
    private static final int LONGEST = 60;
    private static final Set<String> LIBRARY = Set.of("String.length", "String.charAt", "String.indexOf", "System.arraycopy",
            "Math.max", "Math.min", "Math.floorDiv", "Math.floorMod", "Long.compare", "Long.bitCount");
    private static final Set<Tree.Kind> RULED_OUT = EnumSet.of(Tree.Kind.LAMBDA_EXPRESSION, Tree.Kind.MEMBER_REFERENCE, Tree.Kind.THROW,
            Tree.Kind.TRY, Tree.Kind.CATCH, Tree.Kind.SYNCHRONIZED, Tree.Kind.ASSERT, Tree.Kind.IMPORT, Tree.Kind.PACKAGE);
    private static final Set<Modifier> LEFT = EnumSet.of(Modifier.PUBLIC, Modifier.PRIVATE, Modifier.STATIC, Modifier.FINAL);
    private static final String TYPES = "(int|long|short|byte|char|boolean)(\\[\\])?|java\\.lang\\.String|LittleMix(\\.\\w+)?(\\[\\])?";
    private static final String CONSTANTS = "int|long|boolean|char|java\\.lang\\.String|(int|long|char|byte)\\[\\]";

    private CodeTest() {
    }

    public static void main(String[] args) throws IOException {
        JavaCompiler compiler = ToolProvider.getSystemJavaCompiler();
        try (StandardJavaFileManager files = compiler.getStandardFileManager(null, null, null)) {
            Path program = Path.of(args.length > 0 ? args[0] : "src/main/java/LittleMix.java");
            JavacTask task = (JavacTask) compiler.getTask(null, files, null, null, null, files.getJavaFileObjects(program));
            CompilationUnitTree unit = task.parse().iterator().next();
            task.analyze();
            Reader reader = new Reader(Trees.instance(task), unit);
            reader.scan(unit, null);
            depths(reader.calls);
        }
        Kit.end();
    }

    private static void depths(Map<Element, Set<Element>> calls) {
        int deepest = 0;
        for (Element method : calls.keySet()) {
            int depth = depth(method, calls, new LinkedHashSet<>());
            Kit.due("calls from " + name(method) + ", it being the first, go at most eight deep", depth <= DEEPEST, true);
            deepest = Math.max(deepest, depth);
        }
        System.out.println(calls.size() + " methods, constructors and fields, calls go " + deepest + " deep");
        Kit.due("the face and more is found", calls.size() > 14 && deepest > 1, true);
    }

    private static String name(Element method) {
        return method.getEnclosingElement().getSimpleName() + "." + method.getSimpleName();
    }

    /** How many calls stand open at once, this one too and those of the library; one that comes back to itself is too deep. */
    private static int depth(Element method, Map<Element, Set<Element>> calls, Set<Element> open) {
        if (!open.add(method)) {
            return DEEPEST + 1;
        }
        int deepest = 0;
        for (Element called : calls.getOrDefault(method, Set.of())) {
            deepest = Math.max(deepest, depth(called, calls, open));
        }
        open.remove(method);
        return deepest + 1;
    }

    /** Gathers which method calls which, and looks at what the rules say of single trees. */
    private static final class Reader extends TreePathScanner<Void, Void> {
        private final Trees trees;
        private final CompilationUnitTree unit;
        private final Map<Element, Set<Element>> calls = new LinkedHashMap<>();

        Reader(Trees trees, CompilationUnitTree unit) {
            this.trees = trees;
            this.unit = unit;
        }

        @Override
        public Void scan(Tree tree, Void none) {
            if (tree != null) {
                Kit.due("a " + tree.getKind() + " that is ruled out", RULED_OUT.contains(tree.getKind()), false);
            }
            return super.scan(tree, none);
        }

        /** The method, constructor or field whose lines these are. */
        private Element enclosing() {
            TreePath path = getCurrentPath();
            while (!(path.getParentPath().getLeaf() instanceof ClassTree)) {
                path = path.getParentPath();
            }
            return trees.getElement(path);
        }

        private void note(Element called) {
            calls.computeIfAbsent(enclosing(), k -> new LinkedHashSet<>()).add(called);
        }

        @Override
        public Void visitMethod(MethodTree tree, Void none) {
            Element method = trees.getElement(getCurrentPath());
            Kit.due(name(method) + " is short", linesOf(tree) <= LONGEST, true);
            Set<Element> called = calls.computeIfAbsent(method, k -> new LinkedHashSet<>());
            if (method.getKind() == ElementKind.CONSTRUCTOR) {
                for (VariableElement field : ElementFilter.fieldsIn(method.getEnclosingElement().getEnclosedElements())) {
                    called.add(field);
                }
            }
            return super.visitMethod(tree, none);
        }

        /** None for a constructor that nobody wrote. */
        private long linesOf(MethodTree tree) {
            long start = trees.getSourcePositions().getStartPosition(unit, tree);
            long end = trees.getSourcePositions().getEndPosition(unit, tree);
            return end < 0 ? 0 : unit.getLineMap().getLineNumber(end) - unit.getLineMap().getLineNumber(start) + 1;
        }

        @Override
        public Void visitBinary(BinaryTree tree, Void none) {
            boolean joined = trees.getTypeMirror(getCurrentPath()).toString().equals("java.lang.String");
            Kit.due("texts are joined by +", joined, false);
            return super.visitBinary(tree, none);
        }

        @Override
        public Void visitMethodInvocation(MethodInvocationTree tree, Void none) {
            ExecutableElement called = (ExecutableElement) trees.getElement(getCurrentPath());
            boolean inside = trees.getTree(called) != null;
            boolean isConstructor = called.getKind() == ElementKind.CONSTRUCTOR;
            Kit.due(name(called) + " is in the list of the library", inside || isConstructor || LIBRARY.contains(name(called)), true);
            if (!isConstructor) {
                note(called);
            }
            return super.visitMethodInvocation(tree, none);
        }

        @Override
        public Void visitNewClass(NewClassTree tree, Void none) {
            Element made = trees.getElement(getCurrentPath());
            Kit.due(name(made) + " is of the program", trees.getTree(made) != null, true);
            Kit.due(name(made) + " has no body of its own", tree.getClassBody() == null, true);
            madeInConstructor();
            note(made);
            return super.visitNewClass(tree, none);
        }

        @Override
        public Void visitNewArray(NewArrayTree tree, Void none) {
            madeInConstructor();
            return super.visitNewArray(tree, none);
        }

        /** Else what a run makes would have to be counted. */
        private void madeInConstructor() {
            Element where = enclosing();
            Kit.due(name(where) + " makes something", where.getKind() == ElementKind.CONSTRUCTOR || where.getKind() == ElementKind.FIELD, true);
        }

        @Override
        public Void visitVariable(VariableTree tree, Void none) {
            Element variable = trees.getElement(getCurrentPath());
            String type = variable.asType().toString();
            Kit.due(variable + " is of a type that the rules leave", type.matches(TYPES), true);
            if (variable.getModifiers().contains(Modifier.STATIC)) {
                boolean constant = variable.getModifiers().contains(Modifier.FINAL) && type.matches(CONSTANTS);
                Kit.due(variable + " is a constant", constant, true);
            }
            return super.visitVariable(tree, none);
        }

        @Override
        public Void visitModifiers(ModifiersTree tree, Void none) {
            Kit.due(tree + " are modifiers that are left", LEFT.containsAll(tree.getFlags()), true);
            return super.visitModifiers(tree, none);
        }
    }
}
