import com.sun.source.tree.BinaryTree;
import com.sun.source.tree.ClassTree;
import com.sun.source.tree.CompilationUnitTree;
import com.sun.source.tree.CompoundAssignmentTree;
import com.sun.source.tree.ExpressionTree;
import com.sun.source.tree.IdentifierTree;
import com.sun.source.tree.MemberSelectTree;
import com.sun.source.tree.MethodTree;
import com.sun.source.tree.NewClassTree;
import com.sun.source.tree.Tree;
import com.sun.source.util.JavacTask;
import com.sun.source.util.SourcePositions;
import com.sun.source.util.TreePath;
import com.sun.source.util.TreePathScanner;
import com.sun.source.util.Trees;
import java.io.IOException;
import java.nio.file.Path;
import java.util.ArrayList;
import java.util.EnumSet;
import java.util.LinkedHashMap;
import java.util.LinkedHashSet;
import java.util.List;
import java.util.Map;
import java.util.Set;
import javax.lang.model.element.Element;
import javax.lang.model.element.ElementKind;
import javax.lang.model.element.ExecutableElement;
import javax.lang.model.element.Modifier;
import javax.lang.model.element.VariableElement;
import javax.lang.model.type.TypeKind;
import javax.lang.model.type.TypeMirror;
import javax.tools.JavaCompiler;
import javax.tools.StandardJavaFileManager;
import javax.tools.ToolProvider;

/** Rules of ../shared/LANGUAGE.md that can be told from the class as the compiler understands it. */
public final class SourceRulesTest extends TreePathScanner<Void, Void> {
    private static final Path SOURCE = Path.of("src/main/java/GuisePack.java");
    private static final int MOST_LINES = 60;
    private static final int MOST_FIELDS = 20;
    private static final int MOST_DEEP = 8;

    private static final Set<String> STRING = Set.of("length", "charAt", "isEmpty", "equals", "indexOf", "substring",
        "toCharArray", "<init>");
    private static final Set<String> BUILDER = Set.of("<init>", "append", "charAt", "setCharAt", "setLength",
        "deleteCharAt", "reverse", "length", "toString");
    private static final Set<String> ARRAYS = Set.of("copyOf", "copyOfRange", "fill");
    private static final Set<String> THROWN = Set.of("java.lang.IllegalStateException",
        "java.lang.IllegalArgumentException", "java.lang.IndexOutOfBoundsException", "java.lang.ArithmeticException",
        "java.lang.UnsupportedOperationException", "java.util.NoSuchElementException", "java.lang.RuntimeException");
    private static final Set<Tree.Kind> RULED_OUT = EnumSet.of(Tree.Kind.LAMBDA_EXPRESSION, Tree.Kind.MEMBER_REFERENCE,
        Tree.Kind.ASSERT, Tree.Kind.SYNCHRONIZED, Tree.Kind.TRY, Tree.Kind.INSTANCE_OF, Tree.Kind.ANNOTATION);

    private final Trees trees;
    private final CompilationUnitTree unit;
    private final Map<Element, Set<Element>> calls = new LinkedHashMap<>();
    // The method that is read, or a class, whose fields' first values its constructors make.
    private Element inside;

    private SourceRulesTest(Trees trees, CompilationUnitTree unit) {
        this.trees = trees;
        this.unit = unit;
    }

    public static void main(String[] args) throws IOException {
        JavaCompiler compiler = ToolProvider.getSystemJavaCompiler();
        try (StandardJavaFileManager files = compiler.getStandardFileManager(null, null, null)) {
            JavacTask task = (JavacTask) compiler.getTask(null, files, null, List.of("-proc:none"), null,
                files.getJavaFileObjects(SOURCE));
            CompilationUnitTree unit = task.parse().iterator().next();
            task.analyze();
            SourceRulesTest test = new SourceRulesTest(Trees.instance(task), unit);
            test.scan(unit, null);
            test.depths();
        }
        Due.finish();
    }

    @Override
    public Void scan(Tree tree, Void nothing) {
        if (tree != null) {
            Due.is("line " + lineOf(tree) + " has " + tree.getKind(), RULED_OUT.contains(tree.getKind()), false);
        }
        return super.scan(tree, nothing);
    }

    @Override
    public Void visitClass(ClassTree tree, Void nothing) {
        int fields = 0;
        for (Element member : trees.getElement(getCurrentPath()).getEnclosedElements()) {
            if (member.getKind() == ElementKind.FIELD) {
                boolean shared = member.getModifiers().contains(Modifier.STATIC);
                fields += shared ? 0 : 1;
                Due.is("static field " + member + " is final", !shared || member.getModifiers().contains(Modifier.FINAL), true);
                Due.is("static field " + member + " is of a type of rule 5", !shared || isConstantType(member.asType()), true);
            }
        }
        Due.is(tree.getSimpleName() + " has " + fields + " fields, few enough", fields <= MOST_FIELDS, true);
        Element outer = enter(trees.getElement(getCurrentPath()));
        super.visitClass(tree, nothing);
        inside = outer;
        return null;
    }

    private static boolean isConstantType(TypeMirror type) {
        return Set.of("int", "long", "boolean", "char", "java.lang.String", "int[]", "long[]", "char[]", "byte[]")
            .contains(type.toString());
    }

    @Override
    public Void visitMethod(MethodTree tree, Void nothing) {
        ExecutableElement method = (ExecutableElement) trees.getElement(getCurrentPath());
        SourcePositions places = trees.getSourcePositions();
        long lines = lineAt(places.getEndPosition(unit, tree)) - lineAt(places.getStartPosition(unit, tree)) + 1;
        Due.is(method + " has " + lines + " lines, few enough", lines <= MOST_LINES, true);
        Due.is(method + " has few enough parameters", method.getParameters().size() <= 7, true);
        Element outer = enter(method);
        if (method.getKind() == ElementKind.CONSTRUCTOR) {
            calls.get(method).add(outer);
        }
        super.visitMethod(tree, nothing);
        inside = outer;
        return null;
    }

    private Element enter(Element next) {
        Element outer = inside;
        inside = next;
        calls.put(next, new LinkedHashSet<>());
        return outer;
    }

    @Override
    public Void visitMemberSelect(MemberSelectTree tree, Void nothing) {
        used(tree);
        return super.visitMemberSelect(tree, nothing);
    }

    @Override
    public Void visitIdentifier(IdentifierTree tree, Void nothing) {
        used(tree);
        return super.visitIdentifier(tree, nothing);
    }

    @Override
    public Void visitNewClass(NewClassTree tree, Void nothing) {
        used(tree);
        return super.visitNewClass(tree, nothing);
    }

    /** What is called goes into the graph, if it is the class's own, and must stand in rule 4 or 6, if not. */
    private void used(ExpressionTree tree) {
        Element element = trees.getElement(getCurrentPath());
        if (element instanceof ExecutableElement) {
            if (isOwn(element)) {
                calls.get(inside).add(element);
            } else {
                Due.is("line " + lineOf(tree) + ": " + tree + " stands in rule 4", isAllowed((ExecutableElement) element), true);
            }
        } else if (element instanceof VariableElement && element.getKind() == ElementKind.FIELD) {
            boolean length = tree.toString().endsWith(".length");
            Due.is("line " + lineOf(tree) + ": " + tree + " is no field of the library", length || isOwn(element), true);
        }
    }

    private static boolean isOwn(Element element) {
        Element at = element;
        while (at.getEnclosingElement() != null && at.getEnclosingElement().getKind() != ElementKind.PACKAGE) {
            at = at.getEnclosingElement();
        }
        return at.getSimpleName().contentEquals("GuisePack");
    }

    private static boolean isAllowed(ExecutableElement method) {
        String name = method.getSimpleName().toString();
        String owner = method.getEnclosingElement().toString();
        switch (owner) {
            case "java.lang.System": return name.equals("arraycopy");
            case "java.lang.String": return STRING.contains(name);
            case "java.lang.StringBuilder": return BUILDER.contains(name);
            case "java.util.Arrays": return ARRAYS.contains(name);
            case "java.lang.Math":
            case "java.lang.Integer":
            case "java.lang.Long": return isWholeFunction(method, name);
            case "java.lang.Object": return name.equals("<init>");
            default: return THROWN.contains(owner) && name.equals("<init>");
        }
    }

    private static boolean isWholeFunction(ExecutableElement method, String name) {
        boolean whole = method.getModifiers().contains(Modifier.STATIC) && !name.endsWith("Exact");
        for (VariableElement parameter : method.getParameters()) {
            TypeKind kind = parameter.asType().getKind();
            whole &= kind == TypeKind.INT || kind == TypeKind.LONG;
        }
        return whole;
    }

    @Override
    public Void visitBinary(BinaryTree tree, Void nothing) {
        boolean modulo = tree.getKind() == Tree.Kind.REMAINDER;
        Due.is("line " + lineOf(tree) + " has % of doubles", modulo && (isDouble(tree.getLeftOperand())
            || isDouble(tree.getRightOperand())), false);
        Due.is("line " + lineOf(tree) + " joins texts by +", typeOf(tree).toString().equals("java.lang.String"), false);
        return super.visitBinary(tree, nothing);
    }

    @Override
    public Void visitCompoundAssignment(CompoundAssignmentTree tree, Void nothing) {
        boolean modulo = tree.getKind() == Tree.Kind.REMAINDER_ASSIGNMENT;
        Due.is("line " + lineOf(tree) + " has % of doubles", modulo && isDouble(tree.getVariable()), false);
        return super.visitCompoundAssignment(tree, nothing);
    }

    private TypeMirror typeOf(Tree tree) {
        return trees.getTypeMirror(TreePath.getPath(unit, tree));
    }

    private boolean isDouble(Tree tree) {
        TypeKind kind = typeOf(tree).getKind();
        return kind == TypeKind.DOUBLE || kind == TypeKind.FLOAT;
    }

    private long lineOf(Tree tree) {
        return lineAt(trees.getSourcePositions().getStartPosition(unit, tree));
    }

    private long lineAt(long place) {
        return place < 0 ? 0 : unit.getLineMap().getLineNumber(place);
    }

    private void depths() {
        Due.is("methods were found", calls.size() > 100, true);
        for (Element method : calls.keySet()) {
            List<Element> deepest = deepest(method, new ArrayList<>());
            Due.is(method + " goes " + deepest.size() + " deep: " + deepest, deepest.size() <= MOST_DEEP, true);
        }
    }

    private List<Element> deepest(Element method, List<Element> open) {
        Due.is(method + " calls itself behind " + open, open.contains(method), false);
        List<Element> longest = List.of();
        if (!open.contains(method)) {
            open.add(method);
            for (Element called : calls.getOrDefault(method, Set.of())) {
                List<Element> below = deepest(called, open);
                longest = below.size() > longest.size() ? below : longest;
            }
            open.remove(method);
        }
        List<Element> chain = new ArrayList<>(List.of(method));
        chain.addAll(longest);
        return chain;
    }
}
