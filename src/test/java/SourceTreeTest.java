import com.sun.source.tree.BinaryTree;
import com.sun.source.tree.BlockTree;
import com.sun.source.tree.ClassTree;
import com.sun.source.tree.CompilationUnitTree;
import com.sun.source.tree.CompoundAssignmentTree;
import com.sun.source.tree.ExpressionTree;
import com.sun.source.tree.LiteralTree;
import com.sun.source.tree.MethodInvocationTree;
import com.sun.source.tree.MethodTree;
import com.sun.source.tree.NewClassTree;
import com.sun.source.tree.Tree;
import com.sun.source.tree.VariableTree;
import com.sun.source.util.JavacTask;
import com.sun.source.util.TreePath;
import com.sun.source.util.TreePathScanner;
import com.sun.source.util.Trees;
import java.io.IOException;
import java.nio.file.Path;
import java.util.EnumSet;
import java.util.Map;
import java.util.Set;
import java.util.TreeMap;
import java.util.TreeSet;
import javax.lang.model.element.Element;
import javax.lang.model.element.ElementKind;
import javax.lang.model.element.Modifier;
import javax.lang.model.element.TypeElement;
import javax.lang.model.type.ArrayType;
import javax.lang.model.type.DeclaredType;
import javax.lang.model.type.TypeKind;
import javax.lang.model.type.TypeMirror;
import javax.tools.JavaCompiler;
import javax.tools.StandardJavaFileManager;
import javax.tools.ToolProvider;

/** Rules of LANGUAGE.md that the compiler's own tree of the source shows, among them how deep calls go. */
public final class SourceTreeTest {
    private static final String FACE = "SumsInWords";
    private static final int DEEPEST_CALL = 8;
    private static final int MOST_LINES = 60;
    private static final int MOST_PARAMETERS = 7;
    private static final int MOST_CLASSES = 12;
    private static final int MOST_FIELDS = 20;

    private static final Set<Tree.Kind> BANNED = EnumSet.of(Tree.Kind.LAMBDA_EXPRESSION, Tree.Kind.MEMBER_REFERENCE,
        Tree.Kind.THROW, Tree.Kind.TRY, Tree.Kind.CATCH, Tree.Kind.SYNCHRONIZED, Tree.Kind.ASSERT,
        Tree.Kind.UNION_TYPE, Tree.Kind.INTERSECTION_TYPE);

    /** What the class uses of the library; all of it stands in rule 4, of which more could be used. */
    private static final Set<String> LIBRARY = Set.of("java.lang.String.length", "java.lang.String.charAt",
        "java.lang.Math.max", "java.lang.Math.min", "java.lang.Math.abs", "java.lang.System.arraycopy",
        "java.util.Arrays.fill");

    private static int wrong = 0;

    public static void main(String[] args) throws IOException {
        Path source = Path.of(args.length > 0 ? args[0] : ".").resolve("src/main/java/SumsInWords.java");
        JavaCompiler compiler = ToolProvider.getSystemJavaCompiler();
        try (StandardJavaFileManager files = compiler.getStandardFileManager(null, null, null)) {
            JavacTask task = (JavacTask) compiler.getTask(null, files, null, null, null, files.getJavaFileObjects(source));
            CompilationUnitTree unit = task.parse().iterator().next();
            task.analyze();
            due(1, "a package line", unit.getPackageName() == null);
            due(1, "one class in the file", unit.getTypeDecls().size() == 1);
            Rules rules = new Rules(Trees.instance(task), unit);
            rules.scan(unit, null);
            rules.dueAtTheEnd();
        }
        System.out.println(wrong == 0 ? "the tree keeps the rules" : wrong + " rules are not kept");
        if (wrong != 0) {
            System.exit(1);
        }
    }

    private static void due(int rule, String what, boolean kept) {
        if (!kept) {
            wrong++;
            System.out.println("rule " + rule + ": " + what);
        }
    }

    private static final class Rules extends TreePathScanner<Void, Void> {
        private final Trees trees;
        private final CompilationUnitTree unit;
        /** Which methods and constructors each one calls. */
        private final Map<String, Set<String>> calls = new TreeMap<>();
        private final Map<String, Integer> depths = new TreeMap<>();
        private final Set<String> open = new TreeSet<>();
        private final Set<String> openings = new TreeSet<>();
        private int classes;

        Rules(Trees trees, CompilationUnitTree unit) {
            this.trees = trees;
            this.unit = unit;
        }

        void dueAtTheEnd() {
            due(11, classes + " classes", classes > 1 && classes <= MOST_CLASSES);
            int deepest = 0;
            for (String opening : openings) {
                int depth = depth(opening);
                deepest = Math.max(deepest, depth);
                due(11, opening + " goes " + depth + " deep", depth <= DEEPEST_CALL);
            }
            due(11, "only " + deepest + " deep: calls were not found", deepest > 4);
        }

        private int depth(String method) {
            Integer known = depths.get(method);
            if (known != null) {
                return known;
            }
            if (!open.add(method)) {
                due(8, "recursion through " + method, false);
                return 0;
            }
            int below = 0;
            for (String called : calls.getOrDefault(method, Set.of())) {
                below = Math.max(below, depth(called));
            }
            open.remove(method);
            depths.put(method, below + 1);
            return below + 1;
        }

        private String where(Tree tree) {
            long at = trees.getSourcePositions().getStartPosition(unit, tree);
            return "line " + unit.getLineMap().getLineNumber(at) + ": ";
        }

        @Override
        public Void scan(Tree tree, Void nothing) {
            if (tree != null && !isMadeByCompiler(tree)) {
                due(6, where(tree) + tree.getKind(), !BANNED.contains(tree.getKind()));
            }
            return super.scan(tree, nothing);
        }

        private boolean isMadeByCompiler(Tree tree) {
            return trees.getSourcePositions().getEndPosition(unit, tree) < 0;
        }

        @Override
        public Void visitClass(ClassTree tree, Void nothing) {
            classes++;
            Element element = trees.getElement(getCurrentPath());
            boolean inside = getCurrentPath().getParentPath().getLeaf() instanceof ClassTree;
            if (inside) {
                due(2, where(tree) + "a class inside that is not static", element.getModifiers().contains(Modifier.STATIC));
                due(1, where(tree) + "a class inside that is public", !element.getModifiers().contains(Modifier.PUBLIC));
            } else {
                due(2, where(tree) + "a local class", element.getSimpleName().contentEquals(FACE));
            }
            long fields = tree.getMembers().stream().filter(m -> m instanceof VariableTree v
                && !v.getModifiers().getFlags().contains(Modifier.STATIC)).count();
            due(11, where(tree) + fields + " fields", fields <= MOST_FIELDS);
            return super.visitClass(tree, nothing);
        }

        @Override
        public Void visitBlock(BlockTree tree, Void nothing) {
            due(5, where(tree) + "a static initialiser block", !tree.isStatic());
            return super.visitBlock(tree, nothing);
        }

        @Override
        public Void visitMethod(MethodTree tree, Void nothing) {
            Element element = trees.getElement(getCurrentPath());
            if (element.getModifiers().contains(Modifier.PUBLIC) && ownerOf(element).equals(FACE)) {
                openings.add(nameOf(element));
            }
            due(11, where(tree) + "many parameters", tree.getParameters().size() <= MOST_PARAMETERS);
            due(6, where(tree) + "throws", tree.getThrows().isEmpty());
            if (!isMadeByCompiler(tree)) {
                long from = trees.getSourcePositions().getStartPosition(unit, tree);
                long to = trees.getSourcePositions().getEndPosition(unit, tree);
                long lines = unit.getLineMap().getLineNumber(to) - unit.getLineMap().getLineNumber(from) + 1;
                due(11, where(tree) + lines + " lines", lines <= MOST_LINES);
            }
            return super.visitMethod(tree, nothing);
        }

        @Override
        public Void visitVariable(VariableTree tree, Void nothing) {
            Element element = trees.getElement(getCurrentPath());
            TypeMirror type = element.asType();
            due(3, where(tree) + "of type " + type, isGoodType(type));
            if (element.getKind() == ElementKind.FIELD && element.getModifiers().contains(Modifier.STATIC)) {
                due(5, where(tree) + "not final", element.getModifiers().contains(Modifier.FINAL));
                due(5, where(tree) + "static of type " + type, type.getKind().isPrimitive() || isText(type));
            }
            return super.visitVariable(tree, nothing);
        }

        private boolean isGoodType(TypeMirror type) {
            if (type.getKind() == TypeKind.ARRAY) {
                TypeMirror part = ((ArrayType) type).getComponentType();
                return part.getKind() != TypeKind.ARRAY && !isText(part) && isGoodType(part);
            }
            return type.getKind().isPrimitive() || isText(type) || isOwn(((DeclaredType) type).asElement());
        }

        private static boolean isText(TypeMirror type) {
            return type.toString().equals("java.lang.String");
        }

        @Override
        public Void visitLiteral(LiteralTree tree, Void nothing) {
            if (tree.getValue() instanceof String text) {
                due(4, where(tree) + "signs beyond 127", text.chars().allMatch(c -> c >= 1 && c <= 127));
            }
            return super.visitLiteral(tree, nothing);
        }

        @Override
        public Void visitBinary(BinaryTree tree, Void nothing) {
            boolean text = isTextTree(tree.getLeftOperand()) || isTextTree(tree.getRightOperand());
            due(6, where(tree) + "texts joined or compared", !text);
            return super.visitBinary(tree, nothing);
        }

        @Override
        public Void visitCompoundAssignment(CompoundAssignmentTree tree, Void nothing) {
            due(10, where(tree) + "texts joined", !isTextTree(tree.getVariable()));
            return super.visitCompoundAssignment(tree, nothing);
        }

        private boolean isTextTree(ExpressionTree tree) {
            return isText(trees.getTypeMirror(new TreePath(getCurrentPath(), tree)));
        }

        @Override
        public Void visitMethodInvocation(MethodInvocationTree tree, Void nothing) {
            if (!isMadeByCompiler(tree)) {
                Element called = trees.getElement(getCurrentPath());
                due(4, where(tree) + nameOf(called), isOwn(called) || LIBRARY.contains(nameOf(called)));
                addCall(called);
            }
            return super.visitMethodInvocation(tree, nothing);
        }

        @Override
        public Void visitNewClass(NewClassTree tree, Void nothing) {
            Element called = trees.getElement(getCurrentPath());
            due(2, where(tree) + "an anonymous class", tree.getClassBody() == null);
            due(4, where(tree) + "new " + ownerOf(called), isOwn(called));
            addCall(called);
            return super.visitNewClass(tree, nothing);
        }

        /** What a field's initialiser calls is called by the constructors of its class. */
        private void addCall(Element called) {
            String caller = "";
            for (TreePath path = getCurrentPath(); path != null && caller.isEmpty(); path = path.getParentPath()) {
                if (path.getLeaf() instanceof MethodTree) {
                    caller = nameOf(trees.getElement(path));
                } else if (path.getLeaf() instanceof ClassTree) {
                    caller = ((TypeElement) trees.getElement(path)).getQualifiedName() + ".<init>";
                }
            }
            calls.computeIfAbsent(caller, key -> new TreeSet<>()).add(nameOf(called));
        }

        private static boolean isOwn(Element element) {
            Element outer = element;
            while (outer.getEnclosingElement() != null && outer.getEnclosingElement().getKind() != ElementKind.PACKAGE) {
                outer = outer.getEnclosingElement();
            }
            return outer.getSimpleName().contentEquals(FACE);
        }

        private static String ownerOf(Element method) {
            return ((TypeElement) method.getEnclosingElement()).getQualifiedName().toString();
        }

        private static String nameOf(Element method) {
            return ownerOf(method) + "." + method.getSimpleName();
        }
    }
}
