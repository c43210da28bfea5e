import com.sun.source.tree.ArrayAccessTree;
import com.sun.source.tree.AssignmentTree;
import com.sun.source.tree.BinaryTree;
import com.sun.source.tree.BlockTree;
import com.sun.source.tree.ClassTree;
import com.sun.source.tree.CompilationUnitTree;
import com.sun.source.tree.CompoundAssignmentTree;
import com.sun.source.tree.DoWhileLoopTree;
import com.sun.source.tree.ExpressionTree;
import com.sun.source.tree.ForLoopTree;
import com.sun.source.tree.IdentifierTree;
import com.sun.source.tree.ImportTree;
import com.sun.source.tree.MemberSelectTree;
import com.sun.source.tree.MethodInvocationTree;
import com.sun.source.tree.MethodTree;
import com.sun.source.tree.NewArrayTree;
import com.sun.source.tree.NewClassTree;
import com.sun.source.tree.Tree;
import com.sun.source.tree.TypeCastTree;
import com.sun.source.tree.VariableTree;
import com.sun.source.tree.WhileLoopTree;
import com.sun.source.util.JavacTask;
import com.sun.source.util.SourcePositions;
import com.sun.source.util.TreePath;
import com.sun.source.util.TreePathScanner;
import com.sun.source.util.Trees;
import java.io.IOException;
import java.nio.file.Path;
import java.util.HashMap;
import java.util.HashSet;
import java.util.List;
import java.util.Map;
import java.util.Set;
import java.util.TreeSet;
import javax.lang.model.element.Element;
import javax.lang.model.element.ElementKind;
import javax.lang.model.element.Modifier;
import javax.lang.model.type.TypeKind;
import javax.lang.model.type.TypeMirror;
import javax.tools.JavaCompiler;
import javax.tools.StandardJavaFileManager;
import javax.tools.ToolProvider;

/** The class keeps to ../shared/LANGUAGE.md, as far as a reader of its source can tell. */
public final class FormTest extends TreePathScanner<Void, Void> {
    private static final Path SOURCE = Path.of("src", "main", "java", "SnowHut.java");
    private static final int METHOD_LINES = 60, CLASSES = 12, FIELDS = 20, PARAMETERS = 7, CALLS_DEEP = 8;
    private static final Set<Tree.Kind> NEVER = Set.of(Tree.Kind.THROW, Tree.Kind.TRY, Tree.Kind.CATCH,
        Tree.Kind.SYNCHRONIZED, Tree.Kind.ASSERT, Tree.Kind.LAMBDA_EXPRESSION, Tree.Kind.MEMBER_REFERENCE,
        Tree.Kind.ANNOTATION, Tree.Kind.STRING_LITERAL, Tree.Kind.DOUBLE_LITERAL, Tree.Kind.FLOAT_LITERAL,
        Tree.Kind.INSTANCE_OF, Tree.Kind.UNION_TYPE, Tree.Kind.NULL_LITERAL, Tree.Kind.PARAMETERIZED_TYPE);
    /** What the class calls of the library; LANGUAGE.md lets it call more. */
    private static final Set<String> LIBRARY = Set.of("java.lang.Math.min", "java.lang.Math.max",
        "java.lang.Math.abs", "java.lang.Integer.bitCount", "java.lang.System.arraycopy");
    private static final Set<String> TYPES = Set.of("int", "long", "byte", "boolean", "char", "int[]", "int[][]",
        "long[]", "void");
    private static final Set<Tree.Kind> STEPS = Set.of(Tree.Kind.PREFIX_INCREMENT, Tree.Kind.PREFIX_DECREMENT,
        Tree.Kind.POSTFIX_INCREMENT, Tree.Kind.POSTFIX_DECREMENT);

    private final Trees trees;
    private final CompilationUnitTree unit;
    private final SourcePositions positions;
    /** Which methods of the class call which. */
    private final Map<Element, Set<Element>> calls = new HashMap<>();
    private int classes = 0;

    private FormTest(Trees trees, CompilationUnitTree unit) {
        this.trees = trees;
        this.unit = unit;
        this.positions = trees.getSourcePositions();
    }

    public static void main(String[] args) throws IOException {
        JavaCompiler compiler = ToolProvider.getSystemJavaCompiler();
        try (StandardJavaFileManager files = compiler.getStandardFileManager(null, null, null)) {
            JavacTask task = (JavacTask) compiler.getTask(null, files, null, List.of("-proc:none"), null,
                files.getJavaFileObjects(SOURCE));
            CompilationUnitTree unit = task.parse().iterator().next();
            task.analyze();
            FormTest form = new FormTest(Trees.instance(task), unit);
            form.scan(new TreePath(unit), null);
            form.finish();
        }
        Due.end("FormTest");
    }

    private void finish() {
        holds("there is no package line", unit.getPackageName() == null);
        holds("one class at the top", unit.getTypeDecls().size() == 1);
        atMost("classes", classes, CLASSES);
        for (Element method : calls.keySet()) {
            atMost("calls that stand open at once from " + method, depth(method, new HashSet<>()), CALLS_DEEP);
            if (reaches(method, method, new HashSet<>())) {
                Set<Modifier> modifiers = method.getModifiers();
                holds(method + " calls itself: private and static",
                    modifiers.contains(Modifier.PRIVATE) && modifiers.contains(Modifier.STATIC));
            }
        }
    }

    private static void holds(String what, boolean so) {
        Due.is("form: " + what, so ? 1 : 0, 1);
    }

    private static void atMost(String what, long n, long most) {
        Due.is("form: " + what + ", beyond " + most, Math.max(n, most), most);
    }

    /** The longest chain of calls that leaves aside a method that stands open already. */
    private int depth(Element method, Set<Element> open) {
        if (!open.add(method)) {
            return 0;
        }
        int deepest = 0;
        for (Element called : calls.getOrDefault(method, Set.of())) {
            deepest = Math.max(deepest, depth(called, open));
        }
        open.remove(method);
        return 1 + deepest;
    }

    private boolean reaches(Element from, Element to, Set<Element> seen) {
        for (Element called : calls.getOrDefault(from, Set.of())) {
            if (called.equals(to) || seen.add(called) && reaches(called, to, seen)) {
                return true;
            }
        }
        return false;
    }

    private long line(long position) {
        return unit.getLineMap().getLineNumber(position);
    }

    private String at(Tree tree) {
        return "line " + line(positions.getStartPosition(unit, tree));
    }

    private boolean isOwn(Element element) {
        for (Element e = element; e != null; e = e.getEnclosingElement()) {
            if (e.getKind() == ElementKind.CLASS && e.getSimpleName().contentEquals("SnowHut")) {
                return true;
            }
        }
        return false;
    }

    @Override
    public Void scan(Tree tree, Void nothing) {
        if (tree != null && NEVER.contains(tree.getKind())) {
            holds("no " + tree.getKind() + " in " + at(tree), false);
        }
        return super.scan(tree, nothing);
    }

    @Override
    public Void visitImport(ImportTree tree, Void nothing) {
        holds("the class needs no import: " + tree, false);
        return super.visitImport(tree, nothing);
    }

    @Override
    public Void visitClass(ClassTree tree, Void nothing) {
        classes++;
        Element owner = trees.getElement(getCurrentPath()).getEnclosingElement();
        boolean inside = owner.getKind() == ElementKind.CLASS;
        holds("a class that is inside is static, " + at(tree),
            !inside || tree.getModifiers().getFlags().contains(Modifier.STATIC));
        holds("no class in a method, " + at(tree), inside || owner.getKind() == ElementKind.PACKAGE);
        int fields = 0;
        Set<String> names = new TreeSet<>();
        for (Tree member : tree.getMembers()) {
            if (member instanceof VariableTree field) {
                Set<Modifier> modifiers = field.getModifiers().getFlags();
                boolean isStatic = modifiers.contains(Modifier.STATIC);
                fields += isStatic ? 0 : 1;
                holds("a static field is final, " + at(field), !isStatic || modifiers.contains(Modifier.FINAL));
                holds("a static field is written out, " + at(field), !isStatic || isWrittenOut(field.getInitializer()));
                holds("a name is used once, " + at(field), names.add(field.getName().toString()));
            }
            holds("no initialiser block, " + at(member), !(member instanceof BlockTree));
        }
        atMost("fields of the class in " + at(tree), fields, FIELDS);
        return super.visitClass(tree, nothing);
    }

    /** A constant, or an array of constants. */
    private boolean isWrittenOut(ExpressionTree value) {
        if (value instanceof NewArrayTree array) {
            return array.getDimensions().isEmpty() && array.getInitializers().stream().allMatch(this::isWrittenOut);
        }
        return value != null && !value.toString().contains("(") && !value.toString().contains("new ");
    }

    @Override
    public Void visitMethod(MethodTree tree, Void nothing) {
        long first = line(positions.getStartPosition(unit, tree));
        long last = line(positions.getEndPosition(unit, tree));
        atMost("lines of the method in " + at(tree), last - first + 1, METHOD_LINES);
        atMost("parameters of the method in " + at(tree), tree.getParameters().size(), PARAMETERS);
        holds("no throws, " + at(tree), tree.getThrows().isEmpty());
        if (tree.getReturnType() != null) {
            checkType(tree.getReturnType());
        }
        String name = tree.getName().toString();
        holds("no equals, hashCode, toString, " + at(tree), !Set.of("equals", "hashCode", "toString").contains(name));
        calls.putIfAbsent(trees.getElement(getCurrentPath()), new HashSet<>());
        return super.visitMethod(tree, nothing);
    }

    @Override
    public Void visitVariable(VariableTree tree, Void nothing) {
        checkType(tree.getType());
        return super.visitVariable(tree, nothing);
    }

    private void checkType(Tree type) {
        TypeMirror mirror = trees.getTypeMirror(new TreePath(getCurrentPath(), type));
        String name = mirror.toString();
        boolean own = name.startsWith("SnowHut.") && !name.contains("[][]");
        holds("type " + name + ", " + at(type), TYPES.contains(name) || own);
    }

    @Override
    public Void visitTypeCast(TypeCastTree tree, Void nothing) {
        TypeMirror type = trees.getTypeMirror(new TreePath(getCurrentPath(), tree.getType()));
        holds("a cast to a number, " + at(tree), type.getKind().isPrimitive());
        return super.visitTypeCast(tree, nothing);
    }

    /** An array that is static is read alone: by its places or its length. */
    @Override
    public Void visitIdentifier(IdentifierTree tree, Void nothing) {
        Element named = trees.getElement(getCurrentPath());
        boolean field = named != null && named.getKind() == ElementKind.FIELD;
        if (field && named.getModifiers().contains(Modifier.STATIC) && named.asType().getKind() == TypeKind.ARRAY) {
            TreePath use = getCurrentPath().getParentPath();
            boolean place = use.getLeaf() instanceof ArrayAccessTree access && access.getExpression() == tree;
            boolean length = use.getLeaf() instanceof MemberSelectTree select && select.getIdentifier().contentEquals("length");
            boolean read = !changes(use.getParentPath().getLeaf(), use.getLeaf());
            holds("a static array stays as it is, " + at(tree), (place || length) && read);
        }
        return super.visitIdentifier(tree, nothing);
    }

    private static boolean changes(Tree whole, Tree place) {
        if (whole instanceof AssignmentTree into) {
            return into.getVariable() == place;
        }
        if (whole instanceof CompoundAssignmentTree into) {
            return into.getVariable() == place;
        }
        return STEPS.contains(whole.getKind());
    }

    /** All that is made is made with the object: in constructors, and where fields are. */
    private boolean isMadeWithTheObject() {
        for (TreePath path = getCurrentPath(); path != null; path = path.getParentPath()) {
            if (path.getLeaf() instanceof MethodTree method) {
                return method.getName().contentEquals("<init>");
            }
        }
        return true;
    }

    @Override
    public Void visitNewArray(NewArrayTree tree, Void nothing) {
        holds("an array is made with the object, " + at(tree), isMadeWithTheObject());
        return super.visitNewArray(tree, nothing);
    }

    @Override
    public Void visitMethodInvocation(MethodInvocationTree tree, Void nothing) {
        Element called = trees.getElement(getCurrentPath());
        String name = called.getEnclosingElement() + "." + called.getSimpleName();
        boolean ofObject = name.equals("java.lang.Object.<init>");
        holds("a call of " + name + ", " + at(tree), isOwn(called) || LIBRARY.contains(name) || ofObject);
        opens(called);
        return super.visitMethodInvocation(tree, nothing);
    }

    @Override
    public Void visitNewClass(NewClassTree tree, Void nothing) {
        Element made = trees.getElement(getCurrentPath());
        holds("made of the own classes, " + at(tree), isOwn(made) && tree.getClassBody() == null);
        holds("an object is made with the object, " + at(tree), isMadeWithTheObject());
        opens(made);
        return super.visitNewClass(tree, nothing);
    }

    private void opens(Element called) {
        for (TreePath path = getCurrentPath(); path != null; path = path.getParentPath()) {
            if (path.getLeaf() instanceof MethodTree) {
                if (isOwn(called)) {
                    calls.computeIfAbsent(trees.getElement(path), m -> new HashSet<>()).add(called);
                }
                return;
            }
        }
    }

    @Override
    public Void visitBinary(BinaryTree tree, Void nothing) {
        TypeMirror type = trees.getTypeMirror(getCurrentPath());
        holds("numbers and what is true or not, " + at(tree), Set.of("int", "long", "boolean").contains(type.toString()));
        return super.visitBinary(tree, nothing);
    }

    @Override
    public Void visitWhileLoop(WhileLoopTree tree, Void nothing) {
        holds("a loop has an end, " + at(tree), tree.getCondition().toString().contains("<"));
        return super.visitWhileLoop(tree, nothing);
    }

    @Override
    public Void visitForLoop(ForLoopTree tree, Void nothing) {
        boolean bound = tree.getCondition() != null && tree.getCondition().toString().matches(".*(<|>).*");
        holds("a loop counts up to an end, " + at(tree), bound && tree.getUpdate().size() == 1);
        return super.visitForLoop(tree, nothing);
    }

    @Override
    public Void visitDoWhileLoop(DoWhileLoopTree tree, Void nothing) {
        holds("no loop whose end comes behind it, " + at(tree), false);
        return super.visitDoWhileLoop(tree, nothing);
    }
}
