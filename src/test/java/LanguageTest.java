import com.sun.source.tree.AssignmentTree;
import com.sun.source.tree.BinaryTree;
import com.sun.source.tree.BlockTree;
import com.sun.source.tree.ClassTree;
import com.sun.source.tree.CompilationUnitTree;
import com.sun.source.tree.CompoundAssignmentTree;
import com.sun.source.tree.ExpressionTree;
import com.sun.source.tree.IdentifierTree;
import com.sun.source.tree.MemberSelectTree;
import com.sun.source.tree.MethodInvocationTree;
import com.sun.source.tree.MethodTree;
import com.sun.source.tree.NewArrayTree;
import com.sun.source.tree.NewClassTree;
import com.sun.source.tree.Tree;
import com.sun.source.tree.TypeCastTree;
import com.sun.source.tree.UnaryTree;
import com.sun.source.tree.VariableTree;
import com.sun.source.util.JavacTask;
import com.sun.source.util.TreePath;
import com.sun.source.util.TreePathScanner;
import com.sun.source.util.Trees;
import java.io.IOException;
import java.nio.file.Files;
import java.nio.file.Path;
import java.util.EnumSet;
import java.util.LinkedHashMap;
import java.util.LinkedHashSet;
import java.util.List;
import java.util.Map;
import java.util.Set;
import javax.lang.model.element.Element;
import javax.lang.model.element.ElementKind;
import javax.lang.model.element.Modifier;
import javax.lang.model.element.TypeElement;
import javax.lang.model.type.ArrayType;
import javax.lang.model.type.TypeKind;
import javax.lang.model.type.TypeMirror;
import javax.tools.JavaCompiler;
import javax.tools.StandardJavaFileManager;
import javax.tools.ToolProvider;

/**
 * The rules of LANGUAGE.md that can be seen in the text, by the compiler's own tree of it. What the class doesn't need
 * (lists, doubles, generics, enums) is refused here altogether. Its argument is the class's file.
 */
public final class LanguageTest extends TreePathScanner<Void, Void> {
    private static final Set<Tree.Kind> FORBIDDEN = EnumSet.of(
        Tree.Kind.THROW, Tree.Kind.TRY, Tree.Kind.CATCH, Tree.Kind.SYNCHRONIZED, Tree.Kind.ASSERT,
        Tree.Kind.LAMBDA_EXPRESSION, Tree.Kind.MEMBER_REFERENCE, Tree.Kind.IMPORT, Tree.Kind.PACKAGE,
        Tree.Kind.BINDING_PATTERN, Tree.Kind.INSTANCE_OF, Tree.Kind.ANNOTATION, Tree.Kind.ENUM, Tree.Kind.RECORD,
        Tree.Kind.INTERFACE, Tree.Kind.ANNOTATION_TYPE, Tree.Kind.DOUBLE_LITERAL, Tree.Kind.FLOAT_LITERAL,
        Tree.Kind.DO_WHILE_LOOP, Tree.Kind.SWITCH_EXPRESSION, Tree.Kind.YIELD);
    private static final Set<String> LIBRARY = Set.of(
        "String.length", "String.charAt", "System.arraycopy", "Math.max", "Math.min");
    private static final Set<Tree.Kind> LOOPS = EnumSet.of(
        Tree.Kind.FOR_LOOP, Tree.Kind.WHILE_LOOP, Tree.Kind.ENHANCED_FOR_LOOP, Tree.Kind.DO_WHILE_LOOP);
    // A pledge and a stage are made by their calls; nothing else is made behind the constructors.
    private static final Set<String> MAKERS = Set.of("TowerAppeal.pledge", "TowerAppeal.stage");
    private static final int MOST_LINES = 60;
    private static final int MOST_DEEP = 8;
    private static final int MOST_CLASSES = 12;
    private static final int MOST_FIELDS = 20;
    private static final int MOST_PARAMETERS = 7;

    private final Check check = new Check("language");
    private final Map<String, Set<String>> callsOf = new LinkedHashMap<>();
    private final CompilationUnitTree unit;
    private final Trees trees;
    private int classes;

    private LanguageTest(CompilationUnitTree unit, Trees trees) {
        this.unit = unit;
        this.trees = trees;
    }

    public static void main(String[] args) throws IOException {
        Path file = Path.of(args[0]);
        JavaCompiler compiler = ToolProvider.getSystemJavaCompiler();
        try (StandardJavaFileManager files = compiler.getStandardFileManager(null, null, null)) {
            JavacTask task = (JavacTask) compiler.getTask(null, files, null, List.of("-proc:none"), null,
                    files.getJavaFileObjects(file));
            CompilationUnitTree unit = task.parse().iterator().next();
            task.analyze();
            LanguageTest test = new LanguageTest(unit, Trees.instance(task));
            test.scan(unit, null);
            test.checkWhole(Files.readString(file));
            test.check.finish();
        }
    }

    private void checkWhole(String source) {
        check.isTrue("a sign above 127", source.chars().allMatch(sign -> sign < 128));
        check.isTrue("the file has one class outside of others", unit.getTypeDecls().size() == 1);
        check.isTrue(classes + " classes", classes <= MOST_CLASSES);
        for (String method : callsOf.keySet()) {
            depthOf(method, new LinkedHashSet<>());
        }
    }

    /** How deep a method's calls go, itself too; a method that comes back to itself is told. */
    private int depthOf(String method, Set<String> open) {
        if (!open.add(method)) {
            check.isTrue(method + " comes back to itself: " + open, false);
            return 1;
        }
        int deepest = 0;
        for (String called : callsOf.getOrDefault(method, Set.of())) {
            deepest = Math.max(deepest, depthOf(called, open));
        }
        open.remove(method);
        check.isTrue(method + " goes " + (deepest + 1) + " deep", deepest + 1 <= MOST_DEEP);
        return deepest + 1;
    }

    @Override
    public Void scan(Tree tree, Void nothing) {
        if (tree != null) {
            holds(tree, tree.getKind() + " is forbidden", !FORBIDDEN.contains(tree.getKind()));
        }
        return super.scan(tree, nothing);
    }

    private void holds(Tree where, String what, boolean holds) {
        long line = unit.getLineMap().getLineNumber(trees.getSourcePositions().getStartPosition(unit, where));
        check.isTrue("line " + line + ": " + what, holds);
    }

    private Element elementHere() {
        return trees.getElement(getCurrentPath());
    }

    private String methodHere() {
        for (TreePath path = getCurrentPath(); path != null; path = path.getParentPath()) {
            if (path.getLeaf().getKind() == Tree.Kind.METHOD) {
                return nameOf(trees.getElement(path));
            }
        }
        return null;
    }

    private static String nameOf(Element method) {
        return method.getEnclosingElement().getSimpleName() + "." + method.getSimpleName();
    }

    private static boolean isOwn(Element element) {
        for (Element e = element; e != null; e = e.getEnclosingElement()) {
            if (e instanceof TypeElement type && type.getQualifiedName().contentEquals("TowerAppeal")) {
                return true;
            }
        }
        return false;
    }

    @Override
    public Void visitClass(ClassTree tree, Void nothing) {
        classes++;
        Element element = elementHere();
        boolean isOuter = getCurrentPath().getParentPath().getLeaf() == unit;
        Set<Modifier> modifiers = element.getModifiers();
        Set<Modifier> due = isOuter ? Set.of(Modifier.PUBLIC, Modifier.FINAL)
                : Set.of(Modifier.PRIVATE, Modifier.STATIC, Modifier.FINAL);
        holds(tree, "a class is " + modifiers, modifiers.equals(due));
        holds(tree, "a class stands in a method", isOuter || element.getEnclosingElement() instanceof TypeElement);
        holds(tree, "a class extends another", tree.getExtendsClause() == null && tree.getImplementsClause().isEmpty());
        long fields = element.getEnclosedElements().stream()
                .filter(e -> e.getKind() == ElementKind.FIELD && !e.getModifiers().contains(Modifier.STATIC)).count();
        holds(tree, fields + " fields", fields <= MOST_FIELDS);
        return super.visitClass(tree, nothing);
    }

    @Override
    public Void visitBlock(BlockTree tree, Void nothing) {
        holds(tree, "an initialiser block",
                getCurrentPath().getParentPath().getLeaf().getKind() != Tree.Kind.CLASS);
        return super.visitBlock(tree, nothing);
    }

    @Override
    public Void visitMethod(MethodTree tree, Void nothing) {
        callsOf.computeIfAbsent(nameOf(elementHere()), name -> new LinkedHashSet<>());
        holds(tree, "over seven parameters", tree.getParameters().size() <= MOST_PARAMETERS);
        holds(tree, "throws", tree.getThrows().isEmpty());
        holds(tree, "generic", tree.getTypeParameters().isEmpty());
        long start = trees.getSourcePositions().getStartPosition(unit, tree);
        long end = trees.getSourcePositions().getEndPosition(unit, tree);
        if (end >= 0) {
            long lines = unit.getLineMap().getLineNumber(end) - unit.getLineMap().getLineNumber(start) + 1;
            holds(tree, lines + " lines", lines <= MOST_LINES);
        }
        return super.visitMethod(tree, nothing);
    }

    @Override
    public Void visitVariable(VariableTree tree, Void nothing) {
        Element element = elementHere();
        TypeMirror type = element.asType();
        holds(tree, "a variable of type " + type, isPlain(type) || isRow(type));
        if (element.getModifiers().contains(Modifier.STATIC)) {
            holds(tree, "a static field isn't final", element.getModifiers().contains(Modifier.FINAL));
            holds(tree, "a static field of type " + type, type.getKind() == TypeKind.INT || isWrittenOut(tree, type));
        }
        return super.visitVariable(tree, nothing);
    }

    private static boolean isPlain(TypeMirror type) {
        TypeKind kind = type.getKind();
        return kind == TypeKind.INT || kind == TypeKind.LONG || kind == TypeKind.BOOLEAN || kind == TypeKind.BYTE
                || type.toString().equals("java.lang.String") || type.toString().startsWith("TowerAppeal.");
    }

    private static boolean isRow(TypeMirror type) {
        return type instanceof ArrayType row && isPlain(row.getComponentType())
                && !row.getComponentType().toString().equals("java.lang.String");
    }

    private static boolean isWrittenOut(VariableTree tree, TypeMirror type) {
        return type.toString().equals("int[]") && tree.getInitializer() instanceof NewArrayTree row
                && row.getInitializers() != null;
    }

    @Override
    public Void visitMethodInvocation(MethodInvocationTree tree, Void nothing) {
        Element called = elementHere();
        if (called.getKind() == ElementKind.CONSTRUCTOR) {
            return super.visitMethodInvocation(tree, nothing);
        }
        String name = nameOf(called);
        holds(tree, name + " is not in the library", isOwn(called) || LIBRARY.contains(name));
        String caller = methodHere();
        if (isOwn(called) && caller != null) {
            callsOf.computeIfAbsent(caller, key -> new LinkedHashSet<>()).add(name);
        }
        return super.visitMethodInvocation(tree, nothing);
    }

    @Override
    public Void visitNewClass(NewClassTree tree, Void nothing) {
        Element made = elementHere();
        holds(tree, "made of the library: " + made, isOwn(made));
        holds(tree, "an anonymous class", tree.getClassBody() == null);
        String caller = methodHere();
        if (caller != null) {
            callsOf.computeIfAbsent(caller, key -> new LinkedHashSet<>()).add(nameOf(made));
        }
        checkMaker(tree);
        return super.visitNewClass(tree, nothing);
    }

    @Override
    public Void visitNewArray(NewArrayTree tree, Void nothing) {
        checkMaker(tree);
        return super.visitNewArray(tree, nothing);
    }

    private void checkMaker(Tree tree) {
        String method = methodHere();
        boolean mayMake = method == null || method.endsWith(".<init>") || MAKERS.contains(method);
        holds(tree, method + " makes an object", mayMake);
        for (TreePath path = getCurrentPath(); path != null; path = path.getParentPath()) {
            holds(tree, "an object is made in a loop", !LOOPS.contains(path.getLeaf().getKind()));
        }
    }

    @Override
    public Void visitTypeCast(TypeCastTree tree, Void nothing) {
        TypeMirror type = trees.getTypeMirror(new TreePath(getCurrentPath(), tree.getType()));
        holds(tree, "a cast to " + type, type.getKind().isPrimitive());
        return super.visitTypeCast(tree, nothing);
    }

    @Override
    public Void visitBinary(BinaryTree tree, Void nothing) {
        boolean ofTexts = isText(tree.getLeftOperand()) || isText(tree.getRightOperand());
        holds(tree, tree.getKind() + " of a text", !ofTexts);
        return super.visitBinary(tree, nothing);
    }

    @Override
    public Void visitCompoundAssignment(CompoundAssignmentTree tree, Void nothing) {
        holds(tree, tree.getKind() + " of a text", !isText(tree.getVariable()));
        return super.visitCompoundAssignment(tree, nothing);
    }

    private boolean isText(ExpressionTree part) {
        TypeMirror type = trees.getTypeMirror(new TreePath(getCurrentPath(), part));
        return type != null && type.toString().equals("java.lang.String");
    }

    @Override
    public Void visitIdentifier(IdentifierTree tree, Void nothing) {
        checkWritten(tree);
        return super.visitIdentifier(tree, nothing);
    }

    @Override
    public Void visitMemberSelect(MemberSelectTree tree, Void nothing) {
        checkWritten(tree);
        return super.visitMemberSelect(tree, nothing);
    }

    /** A static row is only read: by its length, by an index outside of what is assigned, or copied from. */
    private void checkWritten(Tree tree) {
        Element element = elementHere();
        boolean isStaticRow = element != null && element.getKind() == ElementKind.FIELD
                && element.getModifiers().contains(Modifier.STATIC) && isRow(element.asType());
        if (!isStaticRow) {
            return;
        }
        TreePath parent = getCurrentPath().getParentPath();
        Tree above = parent.getParentPath().getLeaf();
        switch (parent.getLeaf().getKind()) {
            case MEMBER_SELECT -> { }
            case ARRAY_ACCESS -> {
                boolean isSet = above instanceof AssignmentTree set && set.getVariable() == parent.getLeaf();
                boolean isChanged = above instanceof CompoundAssignmentTree more && more.getVariable() == parent.getLeaf();
                boolean isCounted = above instanceof UnaryTree && above.getKind() != Tree.Kind.UNARY_MINUS;
                holds(tree, "a static row is changed", !isSet && !isChanged && !isCounted);
            }
            case METHOD_INVOCATION -> {
                MethodInvocationTree call = (MethodInvocationTree) parent.getLeaf();
                holds(tree, "a static row is handed on",
                        nameOf(trees.getElement(parent)).equals("System.arraycopy") && call.getArguments().get(0) == tree);
            }
            default -> holds(tree, "a static row is handed on", false);
        }
    }
}
