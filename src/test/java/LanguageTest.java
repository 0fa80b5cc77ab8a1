import com.sun.source.tree.AssignmentTree;
import com.sun.source.tree.ArrayAccessTree;
import com.sun.source.tree.BinaryTree;
import com.sun.source.tree.BlockTree;
import com.sun.source.tree.ClassTree;
import com.sun.source.tree.CompilationUnitTree;
import com.sun.source.tree.CompoundAssignmentTree;
import com.sun.source.tree.DoWhileLoopTree;
import com.sun.source.tree.ExpressionTree;
import com.sun.source.tree.ForLoopTree;
import com.sun.source.tree.LiteralTree;
import com.sun.source.tree.MethodInvocationTree;
import com.sun.source.tree.MethodTree;
import com.sun.source.tree.NewArrayTree;
import com.sun.source.tree.NewClassTree;
import com.sun.source.tree.Tree;
import com.sun.source.tree.TypeCastTree;
import com.sun.source.tree.UnaryTree;
import com.sun.source.tree.VariableTree;
import com.sun.source.tree.WhileLoopTree;
import com.sun.source.util.JavacTask;
import com.sun.source.util.TreePath;
import com.sun.source.util.TreePathScanner;
import com.sun.source.util.Trees;
import java.io.IOException;
import java.util.EnumSet;
import java.util.LinkedHashMap;
import java.util.LinkedHashSet;
import java.util.List;
import java.util.Map;
import java.util.Set;
import javax.lang.model.element.Element;
import javax.lang.model.element.ExecutableElement;
import javax.lang.model.element.Modifier;
import javax.lang.model.element.TypeElement;
import javax.lang.model.element.VariableElement;
import javax.lang.model.type.ArrayType;
import javax.lang.model.type.TypeKind;
import javax.lang.model.type.TypeMirror;
import javax.lang.model.util.ElementFilter;
import javax.tools.JavaCompiler;
import javax.tools.StandardJavaFileManager;
import javax.tools.ToolProvider;

/** What the compiler's own tree of the source can tell of the rules of LANGUAGE.md; each fault names its rule. */
public final class LanguageTest extends TreePathScanner<Void, Void> {
    private static final String SOURCE = "src/main/java/ChooseOnce.java";
    private static final Set<String> LIBRARY = Set.of(
        "java.lang.Object.<init>", "java.lang.Math.min", "java.lang.Math.max", "java.lang.Math.abs",
        "java.lang.Math.floorDiv", "java.lang.Math.floorMod", "java.lang.Integer.compare",
        "java.lang.System.arraycopy", "java.util.Arrays.fill");
    private static final Set<TypeKind> CONSTANTS =
        EnumSet.of(TypeKind.INT, TypeKind.LONG, TypeKind.BOOLEAN, TypeKind.CHAR);
    private static final Map<Tree.Kind, String> RULED_OUT = Map.of(
        Tree.Kind.LAMBDA_EXPRESSION, "rule 2: no lambda", Tree.Kind.MEMBER_REFERENCE, "rule 2: no method reference",
        Tree.Kind.THROW, "rule 6: no throw", Tree.Kind.TRY, "rule 6: no try", Tree.Kind.ASSERT, "rule 6: no assert",
        Tree.Kind.SYNCHRONIZED, "rule 6: no synchronized",
        Tree.Kind.INSTANCE_OF, "rule 6: no instanceof, as no class here has kinds");
    private static final int MOST_CLASSES = 12;
    private static final int MOST_FIELDS = 20;
    private static final int MOST_PARAMETERS = 7;
    private static final int MOST_LINES = 60;
    private static final int DEEPEST = 8;

    private final CompilationUnitTree unit;
    private final Trees trees;
    private final Set<String> publicNames = new LinkedHashSet<>();
    private final Map<Element, Set<Element>> calls = new LinkedHashMap<>();
    private int classes = 0;

    private LanguageTest(CompilationUnitTree unit, Trees trees) {
        this.unit = unit;
        this.trees = trees;
    }

    public static void main(String[] args) throws IOException {
        JavaCompiler compiler = ToolProvider.getSystemJavaCompiler();
        try (StandardJavaFileManager files = compiler.getStandardFileManager(null, null, null)) {
            JavacTask task = (JavacTask) compiler.getTask(
                null, files, null, List.of("-proc:none"), null, files.getJavaFileObjects(SOURCE));
            CompilationUnitTree unit = task.parse().iterator().next();
            task.analyze();
            LanguageTest look = new LanguageTest(unit, Trees.instance(task));
            look.look();
        }
        Due.end();
    }

    private void look() {
        Due.is("rule 1: no package", unit.getPackageName() == null, true);
        Due.is("rule 1: one class that stands outside", unit.getTypeDecls().size(), 1);
        scan(TreePath.getPath(unit, unit), null);
        Due.is("rule 11: at most twelve classes, there are " + classes, classes <= MOST_CLASSES, true);
        for (Element method : calls.keySet()) {
            int depth = depthOf(method, new LinkedHashSet<>());
            Due.is("rule 11: calls go at most eight deep: " + named(method) + " " + depth, depth <= DEEPEST, true);
        }
    }

    private void refuse(String what, Tree at) {
        Due.is(what + ", line " + unit.getLineMap().getLineNumber(startOf(at)), false, true);
    }

    private void ask(int rule, String what, Tree at, boolean holds) {
        if (!holds) {
            refuse("rule " + rule + ": " + what, at);
        }
    }

    private long startOf(Tree tree) {
        return trees.getSourcePositions().getStartPosition(unit, tree);
    }

    private Element elementOf(Tree tree) {
        return trees.getElement(trees.getPath(unit, tree));
    }

    private TypeMirror typeOf(Tree tree) {
        return trees.getTypeMirror(trees.getPath(unit, tree));
    }

    private static String named(Element member) {
        return member.getEnclosingElement() + "." + member.getSimpleName();
    }

    private static boolean isOwn(Element element) {
        return element != null && (element.toString() + ".").startsWith("ChooseOnce.");
    }

    /** The method around, or the constructor for what makes a field's first value. */
    private Element aroundHere() {
        for (TreePath path = getCurrentPath(); path != null; path = path.getParentPath()) {
            if (path.getLeaf() instanceof MethodTree) {
                return trees.getElement(path);
            }
            if (path.getLeaf() instanceof ClassTree) {
                return ElementFilter.constructorsIn(trees.getElement(path).getEnclosedElements()).get(0);
            }
        }
        return null;
    }

    private boolean isInConstructor() {
        Element around = aroundHere();
        return around != null && around.getSimpleName().contentEquals("<init>");
    }

    // Classes, their fields and methods

    @Override
    public Void visitClass(ClassTree tree, Void none) {
        classes++;
        TypeElement type = (TypeElement) elementOf(tree);
        Set<Modifier> marks = type.getModifiers();
        boolean isInside = !(getCurrentPath().getParentPath().getLeaf() instanceof CompilationUnitTree);
        if (isInside) {
            // One that stands in a method is never static.
            ask(2, type + " is static", tree, marks.contains(Modifier.STATIC));
            ask(1, type + " is not seen from outside", tree,
                !marks.contains(Modifier.PUBLIC) && !marks.contains(Modifier.PROTECTED));
        } else {
            ask(1, type + " is the class of the document", tree, type.getSimpleName().contentEquals("ChooseOnce"));
            for (ExecutableElement method : ElementFilter.methodsIn(type.getEnclosedElements())) {
                if (method.getModifiers().contains(Modifier.PUBLIC)) {
                    publicNames.add(method.getSimpleName().toString());
                }
            }
        }
        long fields = ElementFilter.fieldsIn(type.getEnclosedElements()).stream()
            .filter(field -> !field.getModifiers().contains(Modifier.STATIC)).count();
        ask(11, type + " has some twenty fields", tree, fields <= MOST_FIELDS);
        return super.visitClass(tree, none);
    }

    @Override
    public Void visitMethod(MethodTree tree, Void none) {
        Element method = elementOf(tree);
        calls.computeIfAbsent(method, key -> new LinkedHashSet<>());
        TypeMirror answer = ((ExecutableElement) method).getReturnType();
        ask(3, named(method) + " answers a type that is left", tree,
            answer.getKind() == TypeKind.VOID || isTypeLeft(answer));
        ask(11, named(method) + " takes at most seven", tree, tree.getParameters().size() <= MOST_PARAMETERS);
        boolean isPrivate = method.getModifiers().contains(Modifier.PRIVATE);
        ask(1, named(method) + " has no public one's name", tree,
            !isPrivate || !publicNames.contains(method.getSimpleName().toString()));
        long end = trees.getSourcePositions().getEndPosition(unit, tree);
        if (end >= 0) {
            long lines = unit.getLineMap().getLineNumber(end) - unit.getLineMap().getLineNumber(startOf(tree)) + 1;
            ask(11, named(method) + " is short", tree, lines <= MOST_LINES);
        }
        return super.visitMethod(tree, none);
    }

    @Override
    public Void visitVariable(VariableTree tree, Void none) {
        Element variable = elementOf(tree);
        ask(3, variable + " has a type that is left", tree, isTypeLeft(variable.asType()));
        if (variable.getModifiers().contains(Modifier.STATIC)) {
            ask(5, variable + " is final", tree, variable.getModifiers().contains(Modifier.FINAL));
            ask(5, variable + " is a constant", tree, isConstant((VariableElement) variable, tree));
        }
        return super.visitVariable(tree, none);
    }

    private static boolean isConstant(VariableElement variable, VariableTree tree) {
        if (variable.asType() instanceof ArrayType array) {
            boolean isWrittenOut = tree.getInitializer() instanceof NewArrayTree made && made.getInitializers() != null;
            return isWrittenOut && CONSTANTS.contains(array.getComponentType().getKind());
        }
        return variable.getConstantValue() != null;
    }

    private static boolean isTypeLeft(TypeMirror type) {
        if (type instanceof ArrayType array) {
            return !(array.getComponentType() instanceof ArrayType) && isTypeLeft(array.getComponentType());
        }
        return CONSTANTS.contains(type.getKind()) || type.toString().startsWith("ChooseOnce");
    }

    @Override
    public Void visitBlock(BlockTree tree, Void none) {
        ask(5, "no block that starts a class", tree, !tree.isStatic());
        return super.visitBlock(tree, none);
    }

    // Calls and what is made

    @Override
    public Void visitMethodInvocation(MethodInvocationTree tree, Void none) {
        called(elementOf(tree), tree);
        return super.visitMethodInvocation(tree, none);
    }

    @Override
    public Void visitNewClass(NewClassTree tree, Void none) {
        ask(2, "no class without a name", tree, tree.getClassBody() == null);
        ask(12, "no call makes an object", tree, isInConstructor());
        called(elementOf(tree), tree);
        return super.visitNewClass(tree, none);
    }

    @Override
    public Void visitNewArray(NewArrayTree tree, Void none) {
        ask(12, "no call makes an array", tree, isInConstructor());
        return super.visitNewArray(tree, none);
    }

    private void called(Element method, Tree tree) {
        if (isOwn(method.getEnclosingElement())) {
            calls.computeIfAbsent(aroundHere(), key -> new LinkedHashSet<>()).add(method);
        } else {
            ask(4, named(method) + " is in the library that is left", tree, LIBRARY.contains(named(method)));
        }
    }

    /** How many calls stand open at the most; one that stands open already is recursion. */
    private int depthOf(Element method, Set<Element> open) {
        if (!open.add(method)) {
            Due.is("rule 8: no recursion in " + named(method), false, true);
            return 0;
        }
        int deepest = 0;
        for (Element next : calls.getOrDefault(method, Set.of())) {
            deepest = Math.max(deepest, depthOf(next, open));
        }
        open.remove(method);
        return deepest + 1;
    }

    // What is ruled out, whole or for some types

    @Override
    public Void scan(Tree tree, Void none) {
        if (tree != null && RULED_OUT.containsKey(tree.getKind())) {
            refuse(RULED_OUT.get(tree.getKind()), tree);
        }
        return super.scan(tree, none);
    }

    @Override
    public Void visitTypeCast(TypeCastTree tree, Void none) {
        ask(6, "only numbers are cast", tree, typeOf(tree.getType()).getKind().isPrimitive());
        return super.visitTypeCast(tree, none);
    }

    @Override
    public Void visitLiteral(LiteralTree tree, Void none) {
        boolean isText = tree.getKind() == Tree.Kind.STRING_LITERAL || tree.getKind() == Tree.Kind.CHAR_LITERAL;
        ask(3, "characters 0 to 255", tree, !isText || tree.getValue().toString().chars().allMatch(c -> c < 256));
        return super.visitLiteral(tree, none);
    }

    @Override
    public Void visitBinary(BinaryTree tree, Void none) {
        if (tree.getKind() == Tree.Kind.EQUAL_TO || tree.getKind() == Tree.Kind.NOT_EQUAL_TO) {
            ask(6, "only numbers are alike", tree, typeOf(tree.getLeftOperand()).getKind().isPrimitive());
        }
        return super.visitBinary(tree, none);
    }

    // Loops, and what is never changed

    @Override
    public Void visitForLoop(ForLoopTree tree, Void none) {
        ask(9, "a loop counts against a bound", tree, hasBound(tree.getCondition()) && !tree.getUpdate().isEmpty());
        return super.visitForLoop(tree, none);
    }

    @Override
    public Void visitWhileLoop(WhileLoopTree tree, Void none) {
        ask(9, "a loop has a bound", tree, hasBound(tree.getCondition()));
        return super.visitWhileLoop(tree, none);
    }

    @Override
    public Void visitDoWhileLoop(DoWhileLoopTree tree, Void none) {
        ask(9, "a loop has a bound", tree, hasBound(tree.getCondition()));
        return super.visitDoWhileLoop(tree, none);
    }

    private static boolean hasBound(ExpressionTree condition) {
        return condition != null && condition.toString().matches(".*[<>].*");
    }

    @Override
    public Void visitAssignment(AssignmentTree tree, Void none) {
        changed(tree.getVariable());
        return super.visitAssignment(tree, none);
    }

    @Override
    public Void visitCompoundAssignment(CompoundAssignmentTree tree, Void none) {
        changed(tree.getVariable());
        return super.visitCompoundAssignment(tree, none);
    }

    @Override
    public Void visitUnary(UnaryTree tree, Void none) {
        String kind = tree.getKind().name();
        if (kind.endsWith("INCREMENT") || kind.endsWith("DECREMENT")) {
            changed(tree.getExpression());
        }
        return super.visitUnary(tree, none);
    }

    private void changed(ExpressionTree place) {
        boolean isPartOfArray = place instanceof ArrayAccessTree;
        Element whole = elementOf(isPartOfArray ? ((ArrayAccessTree) place).getExpression() : place);
        ask(5, whole + " is never changed", place, whole == null || !whole.getModifiers().contains(Modifier.STATIC));
    }
}
