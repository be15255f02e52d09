import com.sun.source.tree.BinaryTree;
import com.sun.source.tree.ClassTree;
import com.sun.source.tree.CompilationUnitTree;
import com.sun.source.tree.CompoundAssignmentTree;
import com.sun.source.tree.DoWhileLoopTree;
import com.sun.source.tree.ForLoopTree;
import com.sun.source.tree.LiteralTree;
import com.sun.source.tree.MethodInvocationTree;
import com.sun.source.tree.MethodTree;
import com.sun.source.tree.NewArrayTree;
import com.sun.source.tree.NewClassTree;
import com.sun.source.tree.Tree;
import com.sun.source.tree.VariableTree;
import com.sun.source.tree.WhileLoopTree;
import com.sun.source.util.JavacTask;
import com.sun.source.util.TreePath;
import com.sun.source.util.TreePathScanner;
import com.sun.source.util.Trees;
import java.nio.file.Path;
import java.util.ArrayList;
import java.util.EnumSet;
import java.util.HashMap;
import java.util.LinkedHashMap;
import java.util.LinkedHashSet;
import java.util.List;
import java.util.Map;
import java.util.Set;
import java.util.TreeSet;
import javax.lang.model.element.Element;
import javax.lang.model.element.ElementKind;
import javax.lang.model.element.ExecutableElement;
import javax.lang.model.element.Modifier;
import javax.lang.model.element.TypeElement;
import javax.lang.model.type.TypeMirror;
import javax.tools.JavaCompiler;
import javax.tools.StandardJavaFileManager;
import javax.tools.ToolProvider;

/** What of LANGUAGE.md can be seen in the source, as javac reads it; takes the source's path. */
public final class LanguageTest {
    private static final int MOST_PARAMETERS = 7, MOST_LINES = 60, MOST_DEPTH = 8, MOST_CLASSES = 12, MOST_FIELDS = 20;

    private static final Set<Tree.Kind> FORBIDDEN = EnumSet.of(
        Tree.Kind.THROW, Tree.Kind.TRY, Tree.Kind.CATCH, Tree.Kind.SYNCHRONIZED, Tree.Kind.ASSERT,
        Tree.Kind.LAMBDA_EXPRESSION, Tree.Kind.MEMBER_REFERENCE, Tree.Kind.PACKAGE, Tree.Kind.ANNOTATION,
        Tree.Kind.BINDING_PATTERN, Tree.Kind.SWITCH_EXPRESSION, Tree.Kind.YIELD);

    /** Of what rule 4 lists, that which the class needs. */
    private static final Set<String> LIBRARY = Set.of(
        "java.lang.Object.<init>", "java.lang.String.length", "java.lang.String.charAt", "java.lang.System.arraycopy",
        "java.lang.Integer.bitCount", "java.lang.Integer.numberOfTrailingZeros",
        "java.lang.Math.max", "java.lang.Math.min");

    private static final Set<String> TYPES = Set.of("int", "long", "boolean", "int[]", "java.lang.String");
    private static final Set<String> CONSTANTS = Set.of("int", "long", "boolean", "char", "java.lang.String");

    private final CompilationUnitTree unit;
    private final Trees trees;
    private final Map<Element, Set<Element>> calls = new LinkedHashMap<>();
    private final List<ClassTree> classes = new ArrayList<>();

    private LanguageTest(CompilationUnitTree unit, Trees trees) {
        this.unit = unit;
        this.trees = trees;
    }

    public static void main(String[] args) throws Exception {
        JavaCompiler javac = ToolProvider.getSystemJavaCompiler();
        try (StandardJavaFileManager files = javac.getStandardFileManager(null, null, null)) {
            JavacTask task = (JavacTask) javac.getTask(null, files, null, List.of("--release", "17", "-proc:none"), null,
                files.getJavaFileObjects(Path.of(args[0])));
            List<CompilationUnitTree> units = new ArrayList<>();
            task.parse().forEach(units::add);
            task.analyze();
            Check.due("one file", units.size(), 1);
            new LanguageTest(units.get(0), Trees.instance(task)).look();
        }
        Check.end();
    }

    private void look() {
        new Reading().scan(unit, null);
        Check.due("11: classes: " + classes.size(), classes.size() <= MOST_CLASSES ? 1 : 0, 1);
        recursion();
        depth();
    }

    private void holds(String rule, Tree where, boolean holds) {
        long line = unit.getLineMap().getLineNumber(trees.getSourcePositions().getStartPosition(unit, where));
        Check.due(rule + ", line " + line, holds ? 1 : 0, 1);
    }

    /** Goes through the whole file; what is otherwise than a rule asks is told with its line. */
    private final class Reading extends TreePathScanner<Void, Void> {
        @Override
        public Void scan(Tree tree, Void none) {
            if (tree != null && FORBIDDEN.contains(tree.getKind())) {
                holds("2, 6: no " + tree.getKind(), tree, false);
            }
            return super.scan(tree, none);
        }

        @Override
        public Void visitClass(ClassTree tree, Void none) {
            Element it = trees.getElement(getCurrentPath());
            classes.add(tree);
            boolean inside = it.getEnclosingElement().getKind() != ElementKind.PACKAGE;
            holds("2: a class inside is static", tree, !inside || it.getModifiers().contains(Modifier.STATIC));
            holds("2: no local class", tree, !inside || it.getEnclosingElement().getKind().isClass());
            int fields = 0;
            for (Tree member : tree.getMembers()) {
                boolean field = member instanceof VariableTree;
                holds("5: no initialiser block", member, member.getKind() != Tree.Kind.BLOCK);
                fields += field && !((VariableTree) member).getModifiers().getFlags().contains(Modifier.STATIC) ? 1 : 0;
            }
            holds("11: fields of a class: " + fields, tree, fields <= MOST_FIELDS);
            return super.visitClass(tree, none);
        }

        @Override
        public Void visitMethod(MethodTree tree, Void none) {
            calls.computeIfAbsent(trees.getElement(getCurrentPath()), m -> new LinkedHashSet<>());
            holds("11: parameters", tree, tree.getParameters().size() <= MOST_PARAMETERS);
            long start = trees.getSourcePositions().getStartPosition(unit, tree);
            long end = trees.getSourcePositions().getEndPosition(unit, tree);
            if (end > 0) {
                long lines = unit.getLineMap().getLineNumber(end) - unit.getLineMap().getLineNumber(start) + 1;
                holds("11: lines of a method: " + lines, tree, lines <= MOST_LINES);
            }
            holds("6: no throws", tree, tree.getThrows().isEmpty());
            return super.visitMethod(tree, none);
        }

        @Override
        public Void visitVariable(VariableTree tree, Void none) {
            Element it = trees.getElement(getCurrentPath());
            String type = it.asType().toString();
            holds("3: a type: " + type, tree, TYPES.contains(type) || isOwn(it.asType()));
            if (it.getModifiers().contains(Modifier.STATIC)) {
                holds("5: a static field is final", tree, it.getModifiers().contains(Modifier.FINAL));
                holds("5: a static field is a constant: " + type, tree, CONSTANTS.contains(type));
            }
            return super.visitVariable(tree, none);
        }

        @Override
        public Void visitMethodInvocation(MethodInvocationTree tree, Void none) {
            called(trees.getElement(getCurrentPath()), tree);
            return super.visitMethodInvocation(tree, none);
        }

        @Override
        public Void visitNewClass(NewClassTree tree, Void none) {
            holds("2: no anonymous class", tree, tree.getClassBody() == null);
            holds("12: objects are made in constructors alone", tree, isInConstructor(getCurrentPath()));
            called(trees.getElement(getCurrentPath()), tree);
            return super.visitNewClass(tree, none);
        }

        @Override
        public Void visitNewArray(NewArrayTree tree, Void none) {
            holds("12: arrays are made in constructors alone", tree, isInConstructor(getCurrentPath()));
            return super.visitNewArray(tree, none);
        }

        @Override
        public Void visitForLoop(ForLoopTree tree, Void none) {
            holds("9: a loop's end in its own line", tree, tree.getCondition() != null && !tree.getUpdate().isEmpty());
            return super.visitForLoop(tree, none);
        }

        @Override
        public Void visitWhileLoop(WhileLoopTree tree, Void none) {
            holds("9: no loop without a counter", tree, false);
            return super.visitWhileLoop(tree, none);
        }

        @Override
        public Void visitDoWhileLoop(DoWhileLoopTree tree, Void none) {
            holds("9: no loop without a counter", tree, false);
            return super.visitDoWhileLoop(tree, none);
        }

        @Override
        public Void visitBinary(BinaryTree tree, Void none) {
            holds("6, 10: no sign joins or compares objects", tree, isPrimitive(tree.getLeftOperand())
                && isPrimitive(tree.getRightOperand()));
            return super.visitBinary(tree, none);
        }

        @Override
        public Void visitCompoundAssignment(CompoundAssignmentTree tree, Void none) {
            holds("10: no sign joins texts", tree, isPrimitive(tree.getVariable()));
            return super.visitCompoundAssignment(tree, none);
        }

        @Override
        public Void visitLiteral(LiteralTree tree, Void none) {
            if (tree.getValue() instanceof String text) {
                holds("4: signs of a constant are 1 to 127", tree, text.chars().allMatch(c -> c >= 1 && c <= 127));
            }
            return super.visitLiteral(tree, none);
        }

        private boolean isPrimitive(Tree tree) {
            TypeMirror type = trees.getTypeMirror(new TreePath(getCurrentPath(), tree));
            return type != null && type.getKind().isPrimitive();
        }

        /** A call in a field's initialiser is one of the class's constructors. */
        private void called(Element callee, Tree tree) {
            String owner = ((TypeElement) callee.getEnclosingElement()).getQualifiedName().toString();
            String name = owner + "." + callee.getSimpleName();
            boolean own = owner.startsWith("TandemKeepsAPlace");
            holds("4: no other library: " + name, tree, own || LIBRARY.contains(name));
            if (!own) {
                return;
            }
            for (Element caller : callers(getCurrentPath())) {
                calls.computeIfAbsent(caller, m -> new LinkedHashSet<>()).add(callee);
            }
        }
    }

    private static boolean isOwn(TypeMirror type) {
        return type.toString().matches("TandemKeepsAPlace(\\.\\w+)?(\\[\\])?");
    }

    private List<Element> callers(TreePath path) {
        for (TreePath p = path; p != null; p = p.getParentPath()) {
            Element it = trees.getElement(p);
            if (p.getLeaf() instanceof MethodTree) {
                return List.of(it);
            }
            if (p.getLeaf() instanceof ClassTree) {
                List<Element> constructors = new ArrayList<>(it.getEnclosedElements());
                constructors.removeIf(m -> m.getKind() != ElementKind.CONSTRUCTOR);
                return constructors;
            }
        }
        return List.of();
    }

    private boolean isInConstructor(TreePath path) {
        return callers(path).stream().allMatch(m -> m.getKind() == ElementKind.CONSTRUCTOR);
    }

    private Map<Element, Set<Element>> reached() {
        Map<Element, Set<Element>> reached = new HashMap<>();
        for (Element from : calls.keySet()) {
            Set<Element> all = new LinkedHashSet<>(calls.get(from));
            List<Element> todo = new ArrayList<>(all);
            for (int i = 0; i < todo.size(); i++) {
                for (Element next : calls.getOrDefault(todo.get(i), Set.of())) {
                    if (all.add(next)) {
                        todo.add(next);
                    }
                }
            }
            reached.put(from, all);
        }
        return reached;
    }

    /** Rule 8: what calls itself, also by others, carries its depth, and is private. */
    private void recursion() {
        Set<String> recursive = new TreeSet<>();
        reached().forEach((method, all) -> {
            if (all.contains(method)) {
                recursive.add(method.getSimpleName().toString());
                ExecutableElement it = (ExecutableElement) method;
                boolean carries = it.getParameters().stream().anyMatch(p -> p.getSimpleName().contentEquals("open"));
                Check.due("8: " + method + " carries its depth", carries ? 1 : 0, 1);
                Check.due("8: " + method + " is private", method.getModifiers().contains(Modifier.PRIVATE) ? 1 : 0, 1);
            }
        });
        Check.same("8: what calls itself", recursive.toString(), "[readAnd, readCompared, readE, readInside, readMinus, "
            + "readNot, readOne, readSum, readTerm]");
    }

    /** Rule 11: methods that call one another in a ring count as one. */
    private void depth() {
        Map<Element, Set<Element>> reached = reached();
        Map<Element, Integer> depths = new HashMap<>();
        for (Element method : calls.keySet()) {
            int deep = depthOf(method, reached, depths);
            Check.due("11: " + method.getEnclosingElement() + "." + method + " goes " + deep + " deep",
                deep <= MOST_DEPTH ? 1 : 0, 1);
        }
    }

    private int depthOf(Element method, Map<Element, Set<Element>> reached, Map<Element, Integer> depths) {
        Integer known = depths.get(method);
        if (known != null) {
            return known;
        }
        Set<Element> all = reached.getOrDefault(method, Set.of());
        int deepest = 0;
        for (Element callee : all) {
            if (!reached.getOrDefault(callee, Set.of()).contains(method)) {
                deepest = Math.max(deepest, depthOf(callee, reached, depths));
            }
        }
        depths.put(method, deepest + 1);
        return deepest + 1;
    }
}
