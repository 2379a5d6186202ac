import com.sun.source.tree.*;
import com.sun.source.util.JavacTask;
import com.sun.source.util.TreePath;
import com.sun.source.util.TreePathScanner;
import com.sun.source.util.Trees;
import java.io.IOException;
import java.nio.file.Files;
import java.nio.file.Path;
import java.util.ArrayList;
import java.util.EnumSet;
import java.util.LinkedHashMap;
import java.util.LinkedHashSet;
import java.util.List;
import java.util.Map;
import java.util.Set;
import javax.lang.model.element.Element;
import javax.lang.model.element.ElementKind;
import javax.lang.model.element.ExecutableElement;
import javax.lang.model.element.Modifier;
import javax.lang.model.type.TypeKind;
import javax.lang.model.type.TypeMirror;
import javax.tools.ToolProvider;

/** The rules of LANGUAGE.md that can be seen in the program as the compiler reads it. */
public final class LanguageTest {
    private static final Due D = new Due();
    private static final Path PROGRAM = Path.of("src", "main", "java", "WalkTeller.java");
    /** What of the library the program uses; all of it stands in rule 4. */
    private static final Set<String> LIBRARY = Set.of("java.lang.Integer.bitCount",
        "java.lang.Integer.numberOfTrailingZeros", "java.lang.Math.min", "java.lang.Math.max",
        "java.util.Arrays.fill", "java.lang.System.arraycopy", "java.lang.String.length",
        "java.lang.String.charAt");
    /** Rules 2 and 6, and signs of what rule 3 leaves out. */
    private static final Set<Tree.Kind> LEFT_OUT = EnumSet.of(Tree.Kind.THROW, Tree.Kind.TRY, Tree.Kind.CATCH,
        Tree.Kind.SYNCHRONIZED, Tree.Kind.ASSERT, Tree.Kind.LAMBDA_EXPRESSION, Tree.Kind.MEMBER_REFERENCE,
        Tree.Kind.PARAMETERIZED_TYPE, Tree.Kind.ANNOTATION, Tree.Kind.INSTANCE_OF);
    private static final Set<Tree.Kind> JOINING = EnumSet.of(Tree.Kind.PLUS, Tree.Kind.PLUS_ASSIGNMENT);
    private static final Set<Tree.Kind> DIVIDING = EnumSet.of(Tree.Kind.DIVIDE, Tree.Kind.REMAINDER,
        Tree.Kind.DIVIDE_ASSIGNMENT, Tree.Kind.REMAINDER_ASSIGNMENT);

    private static final class Scanner extends TreePathScanner<Void, Void> {
        final Trees trees;
        final CompilationUnitTree file;
        final Map<Element, Set<Element>> calls = new LinkedHashMap<>();
        final List<Element> open = new ArrayList<>();
        int classes = 0;

        Scanner(Trees trees, CompilationUnitTree file) {
            this.trees = trees;
            this.file = file;
        }

        String where(Tree tree) {
            long at = trees.getSourcePositions().getStartPosition(file, tree);
            return "line " + file.getLineMap().getLineNumber(at) + ": ";
        }

        void rule(int number, Tree tree, String what, boolean kept) {
            D.due("rule " + number + ", " + where(tree) + what, kept ? 1 : 0, 1);
        }

        TypeMirror type(Tree tree) {
            return trees.getTypeMirror(new TreePath(getCurrentPath(), tree));
        }

        @Override
        public Void scan(Tree tree, Void none) {
            if (tree != null) {
                rule(6, tree, tree.getKind() + " is left out", !LEFT_OUT.contains(tree.getKind()));
            }
            return super.scan(tree, none);
        }

        @Override
        public Void visitImport(ImportTree tree, Void none) {
            String name = tree.getQualifiedIdentifier().toString();
            rule(4, tree, "import of " + name, name.equals("java.util.Arrays") && !tree.isStatic());
            return null;
        }

        @Override
        public Void visitClass(ClassTree tree, Void none) {
            classes++;
            boolean inside = getCurrentPath().getParentPath().getLeaf() instanceof ClassTree;
            boolean outermost = getCurrentPath().getParentPath().getLeaf() == file;
            Set<Modifier> flags = tree.getModifiers().getFlags();
            rule(2, tree, tree.getSimpleName() + " is the class, or static inside it",
                outermost || (inside && flags.contains(Modifier.STATIC)));
            int fields = 0;
            for (Tree member : tree.getMembers()) {
                rule(5, member, "no block of initialising", !(member instanceof BlockTree));
                if (member instanceof VariableTree field
                        && !field.getModifiers().getFlags().contains(Modifier.STATIC)) {
                    fields++;
                }
            }
            rule(11, tree, "fields of " + tree.getSimpleName(), fields <= 20);
            return super.visitClass(tree, none);
        }

        @Override
        public Void visitVariable(VariableTree tree, Void none) {
            TypeMirror type = trees.getTypeMirror(getCurrentPath());
            rule(3, tree, tree.getName() + " has a type that is left", isLeft(type));
            if (tree.getModifiers().getFlags().contains(Modifier.STATIC)) {
                boolean fixed = tree.getModifiers().getFlags().contains(Modifier.FINAL);
                boolean plain = Set.of("int", "java.lang.String").contains(type.toString());
                rule(5, tree, tree.getName() + " is a constant", fixed && plain);
            }
            return super.visitVariable(tree, none);
        }

        @Override
        public Void visitMethod(MethodTree tree, Void none) {
            Element method = trees.getElement(getCurrentPath());
            calls.put(method, new LinkedHashSet<>());
            if (method.getModifiers().contains(Modifier.PUBLIC)) {
                open.add(method);
            }
            long begun = trees.getSourcePositions().getStartPosition(file, tree);
            long ended = trees.getSourcePositions().getEndPosition(file, tree);
            LineMap lines = file.getLineMap();
            rule(11, tree, tree.getName() + " is short",
                begun < 0 || ended < 0 || lines.getLineNumber(ended) - lines.getLineNumber(begun) < 60);
            rule(11, tree, "parameters of " + tree.getName(), tree.getParameters().size() <= 7);
            return super.visitMethod(tree, none);
        }

        private void called(Tree tree) {
            ExecutableElement method = (ExecutableElement) trees.getElement(getCurrentPath());
            String owner = ((javax.lang.model.element.TypeElement) method.getEnclosingElement())
                .getQualifiedName().toString();
            boolean own = owner.startsWith("WalkTeller");
            boolean above = method.getKind() == ElementKind.CONSTRUCTOR && owner.equals("java.lang.Object");
            rule(4, tree, owner + "." + method.getSimpleName() + " is in the list",
                own || above || LIBRARY.contains(owner + "." + method.getSimpleName()));
            if (own) {
                calls.get(caller()).add(method);
            }
        }

        /** The method in which this stands; a field's first value is made by its class's constructor. */
        private Element caller() {
            TreePath path = getCurrentPath();
            while (!(path.getLeaf() instanceof MethodTree) && !(path.getLeaf() instanceof ClassTree)) {
                path = path.getParentPath();
            }
            Element found = trees.getElement(path);
            if (path.getLeaf() instanceof MethodTree) {
                return found;
            }
            for (Element member : found.getEnclosedElements()) {
                if (member.getKind() == ElementKind.CONSTRUCTOR) {
                    calls.putIfAbsent(member, new LinkedHashSet<>());
                    return member;
                }
            }
            throw new IllegalStateException("a class without a constructor");
        }

        @Override
        public Void visitMethodInvocation(MethodInvocationTree tree, Void none) {
            called(tree);
            return super.visitMethodInvocation(tree, none);
        }

        @Override
        public Void visitNewClass(NewClassTree tree, Void none) {
            rule(2, tree, "no class without a name", tree.getClassBody() == null);
            called(tree);
            return super.visitNewClass(tree, none);
        }

        @Override
        public Void visitBinary(BinaryTree tree, Void none) {
            boolean texts = type(tree).toString().equals("java.lang.String");
            rule(10, tree, "no texts joined by +", !texts || !JOINING.contains(tree.getKind()));
            rule(7, tree, "no divisor", !DIVIDING.contains(tree.getKind()));
            boolean like = tree.getKind() == Tree.Kind.EQUAL_TO || tree.getKind() == Tree.Kind.NOT_EQUAL_TO;
            String left = type(tree.getLeftOperand()).toString();
            rule(6, tree, "no == between Strings or Integers",
                !like || !Set.of("java.lang.String", "java.lang.Integer").contains(left));
            return super.visitBinary(tree, none);
        }

        @Override
        public Void visitCompoundAssignment(CompoundAssignmentTree tree, Void none) {
            rule(7, tree, "no divisor", !DIVIDING.contains(tree.getKind()));
            return super.visitCompoundAssignment(tree, none);
        }

        @Override
        public Void visitTypeCast(TypeCastTree tree, Void none) {
            rule(6, tree, "casts are of numbers", type(tree.getType()).getKind().isPrimitive());
            return super.visitTypeCast(tree, none);
        }

        @Override
        public Void visitForLoop(ForLoopTree tree, Void none) {
            rule(9, tree, "the loop has an end and a counter",
                tree.getCondition() != null && tree.getUpdate().size() == 1);
            return super.visitForLoop(tree, none);
        }

        @Override
        public Void visitWhileLoop(WhileLoopTree tree, Void none) {
            rule(9, tree, "the program has counted loops alone", false);
            return super.visitWhileLoop(tree, none);
        }

        @Override
        public Void visitDoWhileLoop(DoWhileLoopTree tree, Void none) {
            rule(9, tree, "the program has counted loops alone", false);
            return super.visitDoWhileLoop(tree, none);
        }
    }

    public static void main(String[] args) throws IOException {
        String text = Files.readString(PROGRAM);
        D.due("signs above 127", text.chars().filter(sign -> sign > 127).count(), 0);
        var compiler = ToolProvider.getSystemJavaCompiler();
        try (var files = compiler.getStandardFileManager(null, null, null)) {
            JavacTask task = (JavacTask) compiler.getTask(null, files, null, List.of("-proc:none"), null,
                files.getJavaFileObjects(PROGRAM));
            CompilationUnitTree file = task.parse().iterator().next();
            task.analyze();
            Scanner scanner = new Scanner(Trees.instance(task), file);
            D.due("rule 1, a package line", file.getPackageName() == null ? 0 : 1, 0);
            scanner.scan(new TreePath(file), null);
            D.due("rule 11, at most twelve classes: " + scanner.classes, scanner.classes <= 12 ? 1 : 0, 1);
            depths(scanner);
        }
        D.end();
    }

    private static boolean isLeft(TypeMirror type) {
        if (type.getKind() == TypeKind.ARRAY) {
            return isLeft(((javax.lang.model.type.ArrayType) type).getComponentType());
        }
        String name = type.toString();
        return Set.of("int", "long", "byte", "char", "boolean", "java.lang.String").contains(name)
            || name.startsWith("WalkTeller.");
    }

    /** Rules 8 and 11: no act's calls stand more than eight deep, and none comes to itself. */
    private static void depths(Scanner scanner) {
        D.due("acts and the constructor", scanner.open.size(), 25);
        for (Element act : scanner.open) {
            List<Element> chain = deepest(scanner.calls, act, new ArrayList<>());
            D.due("rule 11, calls at most eight deep: " + chain, chain.size() <= 8 ? 1 : 0, 1);
        }
    }

    private static List<Element> deepest(Map<Element, Set<Element>> calls, Element from, List<Element> above) {
        D.due("rule 8, no recursion: " + above + " calls " + from, above.contains(from) ? 1 : 0, 0);
        List<Element> chain = new ArrayList<>(above);
        chain.add(from);
        if (above.contains(from)) {
            return chain;
        }
        List<Element> deepest = chain;
        for (Element next : calls.getOrDefault(from, Set.of())) {
            List<Element> further = deepest(calls, next, chain);
            deepest = further.size() > deepest.size() ? further : deepest;
        }
        return deepest;
    }
}
