import com.sun.source.tree.*;
import com.sun.source.tree.Tree.Kind;
import com.sun.source.util.SourcePositions;
import com.sun.source.util.TreePath;
import com.sun.source.util.TreePathScanner;
import com.sun.source.util.Trees;
import java.util.ArrayList;
import java.util.LinkedHashMap;
import java.util.LinkedHashSet;
import java.util.List;
import java.util.Map;
import java.util.Set;
import javax.lang.model.element.Element;
import javax.lang.model.element.ElementKind;
import javax.lang.model.element.ExecutableElement;
import javax.lang.model.element.Modifier;
import javax.lang.model.element.VariableElement;
import javax.lang.model.type.ArrayType;
import javax.lang.model.type.DeclaredType;
import javax.lang.model.type.TypeKind;
import javax.lang.model.type.TypeMirror;

/**
 * Goes through a source as the compiler reads it, and notes where it breaks a rule of LANGUAGE.md
 * that can be read off the source. Where a rule leaves a choice that the class doesn't need (a call
 * that comes back to itself, objects made by methods), what is noted is that it is taken.
 */
final class LanguageRules extends TreePathScanner<Void, Void> {
    private static final int MOST_PARAMETERS = 7;
    private static final int MOST_LINES = 60;
    private static final int MOST_CLASSES = 12;
    private static final int MOST_FIELDS = 20;
    private static final int MOST_CALLS_DEEP = 8;
    private static final Set<String> EXCEPTIONS = Set.of("IllegalStateException",
            "IllegalArgumentException", "IndexOutOfBoundsException", "ArithmeticException",
            "UnsupportedOperationException", "NoSuchElementException", "RuntimeException");
    private static final Set<String> IMPORTS = Set.of("java.util.NoSuchElementException",
            "java.util.ArrayList", "java.util.List", "java.util.Iterator", "java.util.Arrays");
    private static final Map<String, Set<String>> LIBRARY = Map.of(
            "String", Set.of("length", "charAt", "isEmpty", "equals", "indexOf", "substring",
                    "toCharArray"),
            "StringBuilder", Set.of("append", "charAt", "setCharAt", "setLength", "deleteCharAt",
                    "reverse", "length", "toString"),
            "ArrayList", Set.of("add", "get", "set", "remove", "size", "isEmpty", "clear"),
            "List", Set.of("add", "get", "set", "remove", "size", "isEmpty", "clear", "of"),
            "System", Set.of("arraycopy"),
            "Arrays", Set.of("copyOf", "copyOfRange", "fill"));
    private static final Set<String> CONSTANT_TYPES = Set.of("int", "long", "boolean", "char",
            "java.lang.String", "int[]", "long[]", "char[]", "byte[]");

    private final Trees trees;
    private final String className;
    private final List<String> broken = new ArrayList<>();
    private final Map<Element, Set<Element>> calls = new LinkedHashMap<>();
    private int classes = 0;

    LanguageRules(Trees trees, String className) {
        this.trees = trees;
        this.className = className;
    }

    /** What is broken, each with the number of its rule and a line of the source. */
    List<String> brokenBy(CompilationUnitTree unit) {
        scan(unit, null);
        if (classes > MOST_CLASSES) {
            broken.add("rule 11: " + classes + " classes");
        }
        for (Element method : calls.keySet()) {
            int deep = callsDeep(method, new LinkedHashSet<>());
            if (deep > MOST_CALLS_DEEP) {
                broken.add("rule 11: calls of " + method + " go " + deep + " deep");
            }
        }
        return broken;
    }

    private int callsDeep(Element method, Set<Element> open) {
        if (!open.add(method)) {
            broken.add("rule 8: " + method + " comes back to itself");
            return 0;
        }
        int deepest = 0;
        for (Element called : calls.getOrDefault(method, Set.of())) {
            deepest = Math.max(deepest, callsDeep(called, open));
        }
        open.remove(method);
        return deepest + 1;
    }

    private void unless(boolean kept, int rule, Tree where) {
        if (!kept) {
            CompilationUnitTree unit = getCurrentPath().getCompilationUnit();
            long start = trees.getSourcePositions().getStartPosition(unit, where);
            long line = start < 0 ? 0 : unit.getLineMap().getLineNumber(start);
            broken.add("rule " + rule + ", line " + line + ": " + where.toString().split("\n")[0]);
        }
    }

    private Element element() {
        return trees.getElement(getCurrentPath());
    }

    private TypeMirror typeOf(Tree tree) {
        return trees.getTypeMirror(new TreePath(getCurrentPath(), tree));
    }

    private boolean isOwn(Element type) {
        Element outermost = type;
        while (outermost.getEnclosingElement().getKind() != ElementKind.PACKAGE) {
            outermost = outermost.getEnclosingElement();
        }
        return outermost.getSimpleName().contentEquals(className);
    }

    private MethodTree methodAround() {
        TreePath path = getCurrentPath();
        while (path != null && !(path.getLeaf() instanceof MethodTree)) {
            path = path.getParentPath();
        }
        return path == null ? null : (MethodTree) path.getLeaf();
    }

    private boolean isInConstructor() {
        MethodTree method = methodAround();
        return method != null && method.getName().contentEquals("<init>");
    }

    // ---- Rules 1 and 2: the file, its classes

    @Override
    public Void visitCompilationUnit(CompilationUnitTree unit, Void none) {
        unless(unit.getPackageName() == null, 1, unit);
        unless(unit.getTypeDecls().size() == 1, 1, unit);
        for (ImportTree each : unit.getImports()) {
            unless(IMPORTS.contains(each.getQualifiedIdentifier().toString()), 4, each);
        }
        return super.visitCompilationUnit(unit, none);
    }

    @Override
    public Void visitClass(ClassTree tree, Void none) {
        classes++;
        Set<Modifier> modifiers = element().getModifiers();
        Tree parent = getCurrentPath().getParentPath().getLeaf();
        if (parent instanceof CompilationUnitTree) {
            unless(modifiers.equals(Set.of(Modifier.PUBLIC, Modifier.FINAL)), 1, tree);
        } else {
            unless(!modifiers.contains(Modifier.PUBLIC), 1, tree);
            unless(!modifiers.contains(Modifier.PROTECTED), 1, tree);
            unless(!(parent instanceof ClassTree) || modifiers.contains(Modifier.STATIC), 1, tree);
        }
        unless(!(parent instanceof BlockTree), 2, tree);
        int fields = 0;
        for (Element member : element().getEnclosedElements()) {
            boolean isField = member.getKind() == ElementKind.FIELD;
            fields += isField && !member.getModifiers().contains(Modifier.STATIC) ? 1 : 0;
        }
        unless(fields <= MOST_FIELDS, 11, tree);
        return super.visitClass(tree, none);
    }

    @Override
    public Void visitLambdaExpression(LambdaExpressionTree tree, Void none) {
        unless(false, 2, tree);
        return super.visitLambdaExpression(tree, none);
    }

    @Override
    public Void visitMemberReference(MemberReferenceTree tree, Void none) {
        unless(false, 2, tree);
        return super.visitMemberReference(tree, none);
    }

    // ---- Rules 3 and 5: types and static fields

    @Override
    public Void visitVariable(VariableTree tree, Void none) {
        boolean isCaught = getCurrentPath().getParentPath().getLeaf() instanceof CatchTree;
        unless(isCaught || isAllowed(element().asType()), 3, tree);
        VariableElement variable = (VariableElement) element();
        if (variable.getModifiers().contains(Modifier.STATIC)
                && variable.getKind() == ElementKind.FIELD) {
            String type = variable.asType().toString();
            boolean isRow = tree.getInitializer() instanceof NewArrayTree
                    && ((NewArrayTree) tree.getInitializer()).getInitializers() != null;
            unless(variable.getModifiers().contains(Modifier.FINAL), 5, tree);
            unless(CONSTANT_TYPES.contains(type), 5, tree);
            unless(type.endsWith("[]") ? isRow : variable.getConstantValue() != null, 5, tree);
        }
        return super.visitVariable(tree, none);
    }

    @Override
    public Void visitBlock(BlockTree tree, Void none) {
        unless(!tree.isStatic(), 5, tree);
        return super.visitBlock(tree, none);
    }

    private boolean isAllowed(TypeMirror type) {
        if (type.getKind() == TypeKind.ARRAY) {
            TypeMirror each = ((ArrayType) type).getComponentType();
            boolean isRow = each.getKind() == TypeKind.ARRAY;
            TypeMirror inRow = isRow ? ((ArrayType) each).getComponentType() : each;
            return isRow ? inRow.getKind().isPrimitive() : inRow.getKind().isPrimitive() || isOwn(each);
        }
        return type.getKind() == TypeKind.VOID || type.getKind().isPrimitive()
                || type.getKind() == TypeKind.TYPEVAR || isOwn(type)
                || List.of("java.lang.String", "java.lang.StringBuilder", "java.lang.Integer")
                        .contains(type.toString())
                || isListOfAllowed(type);
    }

    private boolean isListOfAllowed(TypeMirror type) {
        if (!type.toString().matches("java\\.util\\.(Array)?List<.*>")) {
            return false;
        }
        TypeMirror each = ((DeclaredType) type).getTypeArguments().get(0);
        return isOwn(each) || each.toString().equals("java.lang.Integer");
    }

    private boolean isOwn(TypeMirror type) {
        return type.getKind() == TypeKind.DECLARED && isOwn(((DeclaredType) type).asElement());
    }

    private static boolean isFloating(TypeMirror type) {
        return type != null && (type.getKind() == TypeKind.DOUBLE || type.getKind() == TypeKind.FLOAT);
    }

    private static boolean isText(TypeMirror type) {
        return type != null && type.toString().equals("java.lang.String");
    }

    // ---- Rules 4, 6, 10: operators, literals, the library

    @Override
    public Void visitBinary(BinaryTree tree, Void none) {
        TypeMirror left = typeOf(tree.getLeftOperand());
        TypeMirror right = typeOf(tree.getRightOperand());
        if (isFloating(left) || isFloating(right)) {
            unless(tree.getKind() != Kind.REMAINDER, 3, tree);
        }
        unless(tree.getKind() != Kind.PLUS || !isText(left) && !isText(right), 10, tree);
        if (tree.getKind() == Kind.EQUAL_TO || tree.getKind() == Kind.NOT_EQUAL_TO) {
            boolean bothTexts = isText(left) && isText(right);
            boolean bothIntegers = left.toString().equals("java.lang.Integer")
                    && right.toString().equals("java.lang.Integer");
            unless(!bothTexts && !bothIntegers, 6, tree);
        }
        return super.visitBinary(tree, none);
    }

    @Override
    public Void visitCompoundAssignment(CompoundAssignmentTree tree, Void none) {
        unless(!isText(typeOf(tree.getVariable())), 10, tree);
        return super.visitCompoundAssignment(tree, none);
    }

    @Override
    public Void visitLiteral(LiteralTree tree, Void none) {
        if (tree.getValue() instanceof String || tree.getValue() instanceof Character) {
            String text = tree.getValue().toString();
            unless(text.chars().allMatch(sign -> sign >= 1 && sign <= 127), 4, tree);
        }
        return super.visitLiteral(tree, none);
    }

    @Override
    public Void visitMemberSelect(MemberSelectTree tree, Void none) {
        Element field = element();
        if (field != null && field.getKind() == ElementKind.FIELD) {
            boolean isLength = tree.getIdentifier().contentEquals("length");
            unless(isLength || isOwn(field.getEnclosingElement()), 4, tree);
        }
        return super.visitMemberSelect(tree, none);
    }

    @Override
    public Void visitMethodInvocation(MethodInvocationTree tree, Void none) {
        ExecutableElement called = (ExecutableElement) element();
        Element type = called.getEnclosingElement();
        boolean isSuper = called.getKind() == ElementKind.CONSTRUCTOR;
        if (!isSuper && isOwn(type)) {
            calls.computeIfAbsent(elementAround(), each -> new LinkedHashSet<>()).add(called);
        } else if (!isSuper) {
            unless(isOfLibrary(called, type.getSimpleName().toString()), 4, tree);
        }
        return super.visitMethodInvocation(tree, none);
    }

    private Element elementAround() {
        TreePath path = getCurrentPath();
        while (!(path.getLeaf() instanceof MethodTree) && !(path.getLeaf() instanceof ClassTree)) {
            path = path.getParentPath();
        }
        return trees.getElement(path);
    }

    private static boolean isOfLibrary(ExecutableElement called, String type) {
        String name = called.getSimpleName().toString();
        if (Set.of("Integer", "Long", "Math").contains(type)) {
            boolean ofWholeNumbers = called.getParameters().stream()
                    .allMatch(each -> each.asType().toString().matches("int|long"));
            return called.getModifiers().contains(Modifier.STATIC) && ofWholeNumbers
                    && !name.endsWith("Exact");
        }
        return type.equals("Array") && name.equals("clone")
                || LIBRARY.getOrDefault(type, Set.of()).contains(name);
    }

    // ---- Rule 6: exceptions and casts

    @Override
    public Void visitThrow(ThrowTree tree, Void none) {
        boolean isPlain = false;
        if (tree.getExpression() instanceof NewClassTree) {
            NewClassTree made = (NewClassTree) tree.getExpression();
            isPlain = EXCEPTIONS.contains(made.getIdentifier().toString())
                    && (made.getArguments().isEmpty() || made.getArguments().size() == 1
                    && made.getArguments().get(0).getKind() == Kind.STRING_LITERAL);
        }
        unless(isPlain, 6, tree);
        unless(!isInConstructor(), 6, tree);
        return super.visitThrow(tree, none);
    }

    @Override
    public Void visitTry(TryTree tree, Void none) {
        unless(tree.getFinallyBlock() == null && tree.getResources().isEmpty(), 6, tree);
        for (CatchTree each : tree.getCatches()) {
            unless(EXCEPTIONS.contains(each.getParameter().getType().toString()), 6, each);
        }
        unless(methodAround() == null || !methodAround().toString().contains("throw new "), 6, tree);
        return super.visitTry(tree, none);
    }

    @Override
    public Void visitSynchronized(SynchronizedTree tree, Void none) {
        unless(false, 6, tree);
        return super.visitSynchronized(tree, none);
    }

    @Override
    public Void visitAssert(AssertTree tree, Void none) {
        unless(false, 6, tree);
        return super.visitAssert(tree, none);
    }

    @Override
    public Void visitTypeCast(TypeCastTree tree, Void none) {
        TypeMirror type = typeOf(tree.getType());
        unless(type.getKind().isPrimitive() || isOwn(type), 6, tree);
        return super.visitTypeCast(tree, none);
    }

    // ---- Rule 9: loops

    @Override
    public Void visitForLoop(ForLoopTree tree, Void none) {
        unless(isBounded(tree.getCondition()), 9, tree);
        return super.visitForLoop(tree, none);
    }

    @Override
    public Void visitWhileLoop(WhileLoopTree tree, Void none) {
        unless(isBounded(tree.getCondition()), 9, tree);
        return super.visitWhileLoop(tree, none);
    }

    @Override
    public Void visitDoWhileLoop(DoWhileLoopTree tree, Void none) {
        unless(isBounded(tree.getCondition()), 9, tree);
        return super.visitDoWhileLoop(tree, none);
    }

    /** That a number is held against a bound, and no other way than this keeps the loop going. */
    private static boolean isBounded(ExpressionTree condition) {
        if (condition instanceof ParenthesizedTree) {
            return isBounded(((ParenthesizedTree) condition).getExpression());
        }
        if (!(condition instanceof BinaryTree)) {
            return false;
        }
        BinaryTree binary = (BinaryTree) condition;
        if (binary.getKind() == Kind.CONDITIONAL_AND) {
            return isBounded(binary.getLeftOperand()) || isBounded(binary.getRightOperand());
        }
        return Set.of(Kind.LESS_THAN, Kind.LESS_THAN_EQUAL, Kind.GREATER_THAN,
                Kind.GREATER_THAN_EQUAL).contains(binary.getKind());
    }

    // ---- Rules 11 and 12: sizes, objects

    @Override
    public Void visitMethod(MethodTree tree, Void none) {
        ExecutableElement method = (ExecutableElement) element();
        unless(isAllowed(method.getReturnType()), 3, tree);
        unless(!method.getModifiers().contains(Modifier.SYNCHRONIZED), 6, tree);
        unless(tree.getParameters().size() <= MOST_PARAMETERS, 11, tree);
        unless(lines(tree) <= MOST_LINES, 11, tree);
        calls.computeIfAbsent(method, each -> new LinkedHashSet<>());
        return super.visitMethod(tree, none);
    }

    private long lines(MethodTree tree) {
        CompilationUnitTree unit = getCurrentPath().getCompilationUnit();
        SourcePositions positions = trees.getSourcePositions();
        long start = positions.getStartPosition(unit, tree);
        long end = positions.getEndPosition(unit, tree);
        LineMap map = unit.getLineMap();
        return end < 0 ? 0 : map.getLineNumber(end) - map.getLineNumber(start) + 1;
    }

    @Override
    public Void visitNewClass(NewClassTree tree, Void none) {
        boolean isThrown = getCurrentPath().getParentPath().getLeaf() instanceof ThrowTree;
        unless(isThrown || isMadeWithTheDesk(), 12, tree);
        unless(isThrown || isAllowed(typeOf(tree.getIdentifier())), 4, tree);
        return super.visitNewClass(tree, none);
    }

    @Override
    public Void visitNewArray(NewArrayTree tree, Void none) {
        unless(isMadeWithTheDesk(), 12, tree);
        return super.visitNewArray(tree, none);
    }

    private boolean isMadeWithTheDesk() {
        return methodAround() == null || isInConstructor();
    }
}
