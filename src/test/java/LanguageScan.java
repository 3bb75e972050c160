import com.sun.source.tree.*;
import com.sun.source.util.TreePath;
import com.sun.source.util.TreePathScanner;
import com.sun.source.util.Trees;
import java.util.ArrayDeque;
import java.util.Deque;
import java.util.List;
import java.util.Map;
import java.util.Set;
import java.util.TreeMap;
import java.util.TreeSet;
import javax.lang.model.element.Element;
import javax.lang.model.element.ElementKind;
import javax.lang.model.element.ExecutableElement;
import javax.lang.model.element.Modifier;
import javax.lang.model.element.TypeElement;
import javax.lang.model.type.ArrayType;
import javax.lang.model.type.DeclaredType;
import javax.lang.model.type.TypeKind;
import javax.lang.model.type.TypeMirror;

/** Goes through a program for LanguageRules, statement by statement. */
final class LanguageScan extends TreePathScanner<Void, Void> {
    private static final String PROGRAM = "Globewright";
    private static final Set<String> LIBRARY_TYPES = Set.of("java.lang.String", "java.lang.StringBuilder",
            "java.lang.Integer", "java.util.ArrayList", "java.util.List", "java.util.Iterator", "java.lang.Iterable",
            "java.lang.Comparable");
    private static final Set<String> LIBRARY_CALLS = Set.of("String.length", "String.charAt", "String.isEmpty",
            "String.equals", "String.indexOf", "String.substring", "String.toCharArray", "StringBuilder.append",
            "StringBuilder.charAt", "StringBuilder.setCharAt", "StringBuilder.setLength", "StringBuilder.deleteCharAt",
            "StringBuilder.reverse", "StringBuilder.length", "StringBuilder.toString", "System.arraycopy",
            "Arrays.copyOf", "Arrays.copyOfRange", "Arrays.fill");
    private static final Set<String> LIST_CALLS = Set.of("add", "get", "set", "remove", "size", "isEmpty", "clear", "of");
    private static final Set<String> EXCEPTIONS = Set.of("IllegalStateException", "IllegalArgumentException",
            "IndexOutOfBoundsException", "ArithmeticException", "UnsupportedOperationException",
            "NoSuchElementException", "RuntimeException");
    private static final Set<TypeKind> STATIC_NUMBERS = Set.of(TypeKind.INT, TypeKind.LONG, TypeKind.BOOLEAN, TypeKind.CHAR);
    private static final Set<TypeKind> STATIC_ROWS = Set.of(TypeKind.INT, TypeKind.LONG, TypeKind.CHAR, TypeKind.BYTE);
    private static final int MOST_PARAMETERS = 7;
    private static final int MOST_LINES = 60;
    private static final int MOST_FIELDS = 20;
    private static final int MOST_DEEP = 8;

    private final CompilationUnitTree unit;
    private final Trees trees;
    private final List<String> faults;
    private final Map<String, Set<String>> callees = new TreeMap<>();
    private final Deque<String> methods = new ArrayDeque<>();
    private boolean isInConstructor;

    LanguageScan(CompilationUnitTree unit, Trees trees, List<String> faults) {
        this.unit = unit;
        this.trees = trees;
        this.faults = faults;
    }

    /** The names of the public methods and of the others, those of the classes inside among the latter. */
    static void methodNames(ClassTree tree, Set<String> face, Set<String> hidden) {
        for (Tree member : tree.getMembers()) {
            if (member instanceof MethodTree) {
                MethodTree method = (MethodTree) member;
                boolean isPublic = method.getModifiers().getFlags().contains(Modifier.PUBLIC);
                (isPublic ? face : hidden).add(method.getName().toString());
            } else if (member instanceof ClassTree) {
                methodNames((ClassTree) member, hidden, hidden);
            }
        }
        hidden.remove("<init>");
    }

    private void require(boolean holds, int rule, Tree tree, String fault) {
        if (!holds) {
            faults.add("rule " + rule + ", line " + lineOf(tree) + ": " + fault);
        }
    }

    private long lineOf(Tree tree) {
        return lineAt(trees.getSourcePositions().getStartPosition(unit, tree));
    }

    private long lineAt(long position) {
        return position < 0 ? 0 : unit.getLineMap().getLineNumber(position);
    }

    private Element element(Tree tree) {
        return trees.getElement(new TreePath(getCurrentPath(), tree));
    }

    private TypeMirror type(Tree tree) {
        return trees.getTypeMirror(new TreePath(getCurrentPath(), tree));
    }

    private boolean isOutermost() {
        return getCurrentPath().getParentPath().getLeaf() instanceof CompilationUnitTree;
    }

    // Classes

    @Override
    public Void visitClass(ClassTree tree, Void unused) {
        Set<Modifier> flags = tree.getModifiers().getFlags();
        Tree parent = getCurrentPath().getParentPath().getLeaf();
        require(isOutermost() || parent instanceof ClassTree, 2, tree, "a local or anonymous class");
        boolean isClass = tree.getKind() == Tree.Kind.CLASS;
        require(isOutermost() || !isClass || flags.contains(Modifier.STATIC), 1, tree, "an inner class");
        boolean isSeen = flags.contains(Modifier.PUBLIC) || flags.contains(Modifier.PROTECTED);
        require(isOutermost() || !isSeen, 1, tree, "a class inside that is seen from outside");
        int fields = 0;
        for (Tree member : tree.getMembers()) {
            member(member);
            fields += member instanceof VariableTree && !isStatic((VariableTree) member) ? 1 : 0;
        }
        require(fields <= MOST_FIELDS, 11, tree, fields + " fields");
        require(tree.getExtendsClause() == null || isOwn(type(tree.getExtendsClause())), 6, tree, "extends a library class");
        return super.visitClass(tree, unused);
    }

    private void member(Tree member) {
        require(!(member instanceof BlockTree) || !((BlockTree) member).isStatic(), 5, member, "a static initialiser");
        if (!isOutermost() || member instanceof ClassTree) {
            return;
        }
        if (member instanceof VariableTree) {
            boolean isPrivate = ((VariableTree) member).getModifiers().getFlags().contains(Modifier.PRIVATE);
            require(isPrivate, 1, member, "a field that is seen from outside");
        }
        if (member instanceof MethodTree) {
            Set<Modifier> flags = ((MethodTree) member).getModifiers().getFlags();
            boolean isKnown = flags.contains(Modifier.PRIVATE) || flags.contains(Modifier.PUBLIC);
            require(isKnown, 1, member, "a method that is neither of the face nor private");
        }
    }

    private static boolean isStatic(VariableTree tree) {
        return tree.getModifiers().getFlags().contains(Modifier.STATIC);
    }

    private boolean isOwn(TypeMirror type) {
        return type instanceof DeclaredType && isOwn((TypeElement) ((DeclaredType) type).asElement());
    }

    private static boolean isOwn(TypeElement type) {
        String name = type.getQualifiedName().toString();
        return name.equals(PROGRAM) || name.startsWith(PROGRAM + ".");
    }

    // Types, fields and variables

    @Override
    public Void visitVariable(VariableTree tree, Void unused) {
        boolean isCaught = getCurrentPath().getParentPath().getLeaf() instanceof CatchTree;
        TypeMirror type = trees.getTypeMirror(getCurrentPath());
        require(isCaught || isAllowed(type, 0), 3, tree, "the type " + type);
        Element field = trees.getElement(getCurrentPath());
        if (field != null && field.getKind() == ElementKind.FIELD && isStatic(tree)) {
            staticField(tree, type);
        }
        return super.visitVariable(tree, unused);
    }

    private void staticField(VariableTree tree, TypeMirror type) {
        require(tree.getModifiers().getFlags().contains(Modifier.FINAL), 5, tree, "a static field that can change");
        boolean isNumber = STATIC_NUMBERS.contains(type.getKind()) || type.toString().equals("java.lang.String");
        boolean isRow = type instanceof ArrayType && STATIC_ROWS.contains(((ArrayType) type).getComponentType().getKind())
                && tree.getInitializer() instanceof NewArrayTree
                && ((NewArrayTree) tree.getInitializer()).getInitializers() != null;
        require(isNumber || isRow, 5, tree, "a static field of " + type + " that is not written out");
    }

    private boolean isAllowed(TypeMirror type, int dimensions) {
        if (type == null || type.getKind() == TypeKind.VOID) {
            return true;
        }
        if (type.getKind().isPrimitive()) {
            return dimensions <= 2 && (dimensions < 2 || type.getKind() != TypeKind.BOOLEAN);
        }
        if (type instanceof ArrayType) {
            return isAllowed(((ArrayType) type).getComponentType(), dimensions + 1);
        }
        if (type.getKind() == TypeKind.TYPEVAR) {
            return dimensions == 0;
        }
        if (!(type instanceof DeclaredType)) {
            return false;
        }
        for (TypeMirror argument : ((DeclaredType) type).getTypeArguments()) {
            boolean isElement = isOwn(argument) || argument.getKind() == TypeKind.TYPEVAR
                    || argument.toString().equals("java.lang.Integer");
            if (!isElement) {
                return false;
            }
        }
        String name = ((TypeElement) ((DeclaredType) type).asElement()).getQualifiedName().toString();
        return dimensions <= 1 && (isOwn(type) || dimensions == 0 && LIBRARY_TYPES.contains(name));
    }

    @Override
    public Void visitAssignment(AssignmentTree tree, Void unused) {
        constantRow(tree.getVariable());
        return super.visitAssignment(tree, unused);
    }

    @Override
    public Void visitCompoundAssignment(CompoundAssignmentTree tree, Void unused) {
        constantRow(tree.getVariable());
        boolean isPlain = tree.getKind() == Tree.Kind.PLUS_ASSIGNMENT || tree.getKind() == Tree.Kind.MINUS_ASSIGNMENT
                || tree.getKind() == Tree.Kind.MULTIPLY_ASSIGNMENT || tree.getKind() == Tree.Kind.DIVIDE_ASSIGNMENT;
        require(isPlain || !isReal(type(tree.getVariable())), 3, tree, "no sum for a double");
        require(!isText(type(tree.getVariable())), 10, tree, "texts joined by +");
        return super.visitCompoundAssignment(tree, unused);
    }

    private void constantRow(Tree target) {
        if (target instanceof ArrayAccessTree) {
            Tree row = ((ArrayAccessTree) target).getExpression();
            Element field = row instanceof IdentifierTree ? element(row) : null;
            boolean isConstant = field != null && field.getKind() == ElementKind.FIELD
                    && field.getModifiers().contains(Modifier.STATIC);
            require(!isConstant, 5, target, "a static row that is changed");
        }
    }

    @Override
    public Void visitBinary(BinaryTree tree, Void unused) {
        TypeMirror left = type(tree.getLeftOperand());
        TypeMirror right = type(tree.getRightOperand());
        boolean isPlain = Set.of(Tree.Kind.PLUS, Tree.Kind.MINUS, Tree.Kind.MULTIPLY, Tree.Kind.DIVIDE,
                Tree.Kind.LESS_THAN, Tree.Kind.LESS_THAN_EQUAL, Tree.Kind.GREATER_THAN, Tree.Kind.GREATER_THAN_EQUAL,
                Tree.Kind.EQUAL_TO, Tree.Kind.NOT_EQUAL_TO).contains(tree.getKind());
        require(isPlain || !isReal(left) && !isReal(right), 3, tree, "no sum for a double");
        require(tree.getKind() != Tree.Kind.PLUS || !isText(left) && !isText(right), 10, tree, "texts joined by +");
        boolean isSame = tree.getKind() == Tree.Kind.EQUAL_TO || tree.getKind() == Tree.Kind.NOT_EQUAL_TO;
        require(!isSame || !isValue(left) || !isValue(right), 6, tree, "two texts or Integers compared by ==");
        boolean isDivision = tree.getKind() == Tree.Kind.DIVIDE || tree.getKind() == Tree.Kind.REMAINDER;
        require(!isDivision || isDivisor(tree.getRightOperand()), 7, tree, "a divisor that is not looked at");
        return super.visitBinary(tree, unused);
    }

    /** A number, a constant that is not 0, or a variable that the same method compares with 0. */
    private boolean isDivisor(ExpressionTree divisor) {
        ExpressionTree inside = divisor;
        while (inside instanceof TypeCastTree || inside instanceof ParenthesizedTree) {
            inside = inside instanceof TypeCastTree ? ((TypeCastTree) inside).getExpression()
                    : ((ParenthesizedTree) inside).getExpression();
        }
        if (inside instanceof LiteralTree) {
            return !inside.toString().matches("0[0.LlFfDd]*");
        }
        Element named = inside instanceof IdentifierTree ? element(inside) : null;
        if (named instanceof javax.lang.model.element.VariableElement
                && ((javax.lang.model.element.VariableElement) named).getConstantValue() instanceof Number) {
            return ((Number) ((javax.lang.model.element.VariableElement) named).getConstantValue()).doubleValue() != 0;
        }
        TreePath method = getCurrentPath();
        while (method != null && !(method.getLeaf() instanceof MethodTree)) {
            method = method.getParentPath();
        }
        return named != null && method != null
                && method.getLeaf().toString().matches("(?s).*\\b" + inside + " (==|!=|<=|>) 0.*");
    }

    private static boolean isReal(TypeMirror type) {
        return type != null && (type.getKind() == TypeKind.DOUBLE || type.getKind() == TypeKind.FLOAT);
    }

    private static boolean isText(TypeMirror type) {
        return type != null && type.toString().equals("java.lang.String");
    }

    private static boolean isValue(TypeMirror type) {
        return isText(type) || type != null && type.toString().equals("java.lang.Integer");
    }

    @Override
    public Void visitLiteral(LiteralTree tree, Void unused) {
        if (tree.getValue() instanceof String || tree.getValue() instanceof Character) {
            boolean isPlain = tree.getValue().toString().chars().allMatch(sign -> sign >= 1 && sign <= 127);
            require(isPlain, 4, tree, "a sign above 127");
        }
        return super.visitLiteral(tree, unused);
    }

    // Methods and what they call

    @Override
    public Void visitMethod(MethodTree tree, Void unused) {
        String name = tree.getName().toString();
        require(!Set.of("equals", "hashCode", "toString").contains(name), 6, tree, "a method " + name);
        require(tree.getParameters().size() <= MOST_PARAMETERS, 11, tree, "more than seven parameters");
        require(!tree.getModifiers().getFlags().contains(Modifier.SYNCHRONIZED), 6, tree, "synchronized");
        require(tree.getReturnType() == null || isAllowed(type(tree.getReturnType()), 0), 3, tree, "the type it returns");
        long first = lineOf(tree);
        long last = lineAt(trees.getSourcePositions().getEndPosition(unit, tree));
        require(last - first < MOST_LINES, 11, tree, "more than sixty lines");
        Element method = trees.getElement(getCurrentPath());
        isInConstructor = method.getKind() == ElementKind.CONSTRUCTOR;
        methods.push(told(method));
        callees.putIfAbsent(methods.peek(), new TreeSet<>());
        super.visitMethod(tree, unused);
        methods.pop();
        isInConstructor = false;
        return null;
    }

    private static String told(Element method) {
        return method.getEnclosingElement() + "." + method;
    }

    @Override
    public Void visitMethodInvocation(MethodInvocationTree tree, Void unused) {
        Element called = element(tree.getMethodSelect());
        TypeElement owner = (TypeElement) called.getEnclosingElement();
        boolean isSuper = called.getKind() == ElementKind.CONSTRUCTOR;
        if (isOwn(owner)) {
            if (!methods.isEmpty()) {
                callees.get(methods.peek()).add(told(called));
            }
            boolean isOnItself = tree.getMethodSelect() instanceof IdentifierTree
                    && !called.getModifiers().contains(Modifier.STATIC);
            require(!isInConstructor || !isOnItself || isSuper, 12, tree, "a call of its own in a constructor");
        } else {
            require(isSuper || isOfLibrary(owner, (ExecutableElement) called), 4, tree, "a call of " + told(called));
        }
        return super.visitMethodInvocation(tree, unused);
    }

    private static boolean isOfLibrary(TypeElement owner, ExecutableElement called) {
        String name = called.getSimpleName().toString();
        String owned = owner.getSimpleName() + "." + name;
        boolean isWhole = called.getParameters().stream().map(parameter -> parameter.asType().getKind())
                .allMatch(kind -> kind == TypeKind.INT || kind == TypeKind.LONG);
        switch (owner.getQualifiedName().toString()) {
            case "java.lang.Math":
            case "java.lang.Integer":
            case "java.lang.Long":
                return isWhole && called.getModifiers().contains(Modifier.STATIC) && !name.endsWith("Exact");
            case "java.util.ArrayList":
            case "java.util.List":
            case "java.util.Collection":
            case "java.util.AbstractCollection":
                return LIST_CALLS.contains(name);
            default:
                return LIBRARY_CALLS.contains(owned);
        }
    }

    @Override
    public Void visitNewClass(NewClassTree tree, Void unused) {
        TypeElement made = (TypeElement) element(tree).getEnclosingElement();
        boolean isThrown = getCurrentPath().getParentPath().getLeaf() instanceof ThrowTree;
        String name = made.getSimpleName().toString();
        boolean isOfLibrary = Set.of("ArrayList", "StringBuilder", "String").contains(name);
        require(isOwn(made) || isOfLibrary || isThrown, 4, tree, "a new " + name);
        if (isOwn(made) && !methods.isEmpty()) {
            callees.get(methods.peek()).add(told(element(tree)));
        }
        return super.visitNewClass(tree, unused);
    }

    @Override
    public Void visitIdentifier(IdentifierTree tree, Void unused) {
        boolean isSelect = getCurrentPath().getParentPath().getLeaf() instanceof MemberSelectTree;
        boolean isHandedOut = tree.getName().contentEquals("this") && !isSelect;
        require(!isInConstructor || !isHandedOut, 12, tree, "a constructor hands out its object");
        return super.visitIdentifier(tree, unused);
    }

    @Override
    public Void visitLambdaExpression(LambdaExpressionTree tree, Void unused) {
        require(false, 2, tree, "a lambda");
        return null;
    }

    @Override
    public Void visitMemberReference(MemberReferenceTree tree, Void unused) {
        require(false, 2, tree, "a method reference");
        return null;
    }

    @Override
    public Void visitTypeCast(TypeCastTree tree, Void unused) {
        require(type(tree.getType()).getKind().isPrimitive(), 6, tree, "a cast to a class");
        return super.visitTypeCast(tree, unused);
    }

    // Exceptions

    @Override
    public Void visitThrow(ThrowTree tree, Void unused) {
        boolean isNew = tree.getExpression() instanceof NewClassTree;
        require(isNew, 6, tree, "a throw of what is not new");
        if (isNew) {
            NewClassTree made = (NewClassTree) tree.getExpression();
            require(EXCEPTIONS.contains(made.getIdentifier().toString()), 6, tree, "a throw of " + made.getIdentifier());
            boolean isTold = made.getArguments().size() == 1 && made.getArguments().get(0) instanceof LiteralTree;
            require(made.getArguments().isEmpty() || isTold, 6, tree, "a throw with a text that is not written");
        }
        require(!isInConstructor, 6, tree, "a throw in a constructor");
        return super.visitThrow(tree, unused);
    }

    /** None is needed: what a call refuses is looked at ahead of all that it changes. */
    @Override
    public Void visitTry(TryTree tree, Void unused) {
        require(false, 6, tree, "a try");
        return super.visitTry(tree, unused);
    }

    @Override
    public Void visitSynchronized(SynchronizedTree tree, Void unused) {
        require(false, 6, tree, "synchronized");
        return super.visitSynchronized(tree, unused);
    }

    @Override
    public Void visitAssert(AssertTree tree, Void unused) {
        require(false, 6, tree, "assert");
        return super.visitAssert(tree, unused);
    }

    // Loops

    @Override
    public Void visitForLoop(ForLoopTree tree, Void unused) {
        require(tree.getCondition() != null && !tree.getUpdate().isEmpty(), 9, tree, "a loop without a bound");
        return super.visitForLoop(tree, unused);
    }

    @Override
    public Void visitWhileLoop(WhileLoopTree tree, Void unused) {
        require(!isAlways(tree.getCondition()), 9, tree, "a loop without a bound");
        return super.visitWhileLoop(tree, unused);
    }

    @Override
    public Void visitDoWhileLoop(DoWhileLoopTree tree, Void unused) {
        require(!isAlways(tree.getCondition()), 9, tree, "a loop without a bound");
        return super.visitDoWhileLoop(tree, unused);
    }

    private static boolean isAlways(ExpressionTree condition) {
        return condition.toString().replaceAll("[()]", "").equals("true");
    }

    @Override
    public Void visitEnhancedForLoop(EnhancedForLoopTree tree, Void unused) {
        require(type(tree.getExpression()) instanceof ArrayType, 12, tree, "a loop that makes an iterator");
        return super.visitEnhancedForLoop(tree, unused);
    }

    // The calls all together

    /** How deep the calls go, and whether one comes back to itself. */
    void calls() {
        for (String method : callees.keySet()) {
            int deep = depth(method, new ArrayDeque<>());
            if (deep > MOST_DEEP) {
                faults.add("rule 11: " + method + " goes " + deep + " calls deep");
            }
        }
    }

    private int depth(String method, Deque<String> open) {
        if (open.contains(method)) {
            faults.add("rule 8: " + method + " calls itself");
            return 0;
        }
        open.push(method);
        int deepest = 0;
        for (String called : callees.getOrDefault(method, Set.of())) {
            deepest = Math.max(deepest, depth(called, open));
        }
        open.pop();
        return deepest + 1;
    }
}
