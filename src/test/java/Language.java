import com.sun.source.tree.ArrayAccessTree;
import com.sun.source.tree.AssertTree;
import com.sun.source.tree.BinaryTree;
import com.sun.source.tree.BlockTree;
import com.sun.source.tree.CatchTree;
import com.sun.source.tree.ClassTree;
import com.sun.source.tree.CompilationUnitTree;
import com.sun.source.tree.CompoundAssignmentTree;
import com.sun.source.tree.DoWhileLoopTree;
import com.sun.source.tree.ExpressionTree;
import com.sun.source.tree.ForLoopTree;
import com.sun.source.tree.IdentifierTree;
import com.sun.source.tree.ImportTree;
import com.sun.source.tree.LambdaExpressionTree;
import com.sun.source.tree.LiteralTree;
import com.sun.source.tree.MemberReferenceTree;
import com.sun.source.tree.MethodInvocationTree;
import com.sun.source.tree.MethodTree;
import com.sun.source.tree.NewArrayTree;
import com.sun.source.tree.NewClassTree;
import com.sun.source.tree.ParenthesizedTree;
import com.sun.source.tree.SynchronizedTree;
import com.sun.source.tree.ThrowTree;
import com.sun.source.tree.Tree;
import com.sun.source.tree.TryTree;
import com.sun.source.tree.TypeCastTree;
import com.sun.source.tree.VariableTree;
import com.sun.source.tree.WhileLoopTree;
import com.sun.source.util.JavacTask;
import com.sun.source.util.TreePathScanner;
import com.sun.source.util.Trees;
import java.io.IOException;
import java.net.URI;
import java.util.ArrayList;
import java.util.LinkedHashMap;
import java.util.LinkedHashSet;
import java.util.List;
import java.util.Map;
import java.util.Set;
import javax.lang.model.element.Element;
import javax.lang.model.element.ExecutableElement;
import javax.lang.model.element.Modifier;
import javax.lang.model.element.TypeElement;
import javax.lang.model.element.VariableElement;
import javax.lang.model.type.ArrayType;
import javax.lang.model.type.DeclaredType;
import javax.lang.model.type.TypeKind;
import javax.lang.model.type.TypeMirror;
import javax.tools.JavaFileObject;
import javax.tools.SimpleJavaFileObject;
import javax.tools.ToolProvider;

/**
 * Looks through a program for what ../shared/LANGUAGE.md rules out. Where a rule leaves more than
 * this program needs (lists, casts of objects, arrays in every class), the narrower way is asked
 * for, since it can be seen from the text alone.
 */
final class Language extends TreePathScanner<Void, Void> {
    private static final Set<String> EXCEPTIONS = Set.of("IllegalStateException",
            "IllegalArgumentException", "IndexOutOfBoundsException", "ArithmeticException",
            "UnsupportedOperationException", "NoSuchElementException", "RuntimeException");
    private static final Set<String> CALLS = Set.of("Integer.bitCount", "Integer.compare",
            "Integer.max", "Integer.min", "Math.abs", "Math.max", "Math.min", "Math.floorDiv",
            "Math.floorMod", "System.arraycopy");
    private static final Set<TypeKind> CONSTANTS =
            Set.of(TypeKind.INT, TypeKind.LONG, TypeKind.BOOLEAN, TypeKind.CHAR);
    private static final Set<String> OBJECT_METHODS = Set.of("equals", "hashCode", "toString");
    private static final String ONLY_HOLDER_OF_ARRAYS = "Row";
    private static final int MOST_PARAMETERS = 7;
    private static final int MOST_LINES = 60;
    private static final int MOST_CLASSES = 12;
    private static final int MOST_FIELDS = 20;
    private static final int DEEPEST = 8;

    private final List<String> breaks = new ArrayList<>();
    private final Map<Element, Set<Element>> calls = new LinkedHashMap<>();
    private final Set<String> publicNames = new LinkedHashSet<>();
    private final Set<String> classNames = new LinkedHashSet<>();
    private final Trees trees;
    private final CompilationUnitTree unit;
    private MethodTree method = null;
    private int loops = 0;
    private boolean throwing = false;

    private Language(Trees trees, CompilationUnitTree unit) {
        this.trees = trees;
        this.unit = unit;
    }

    /** The rules that a program breaks, each as "rule: line: what". */
    static List<String> breaks(String text) {
        JavaFileObject source = new SimpleJavaFileObject(
                URI.create("string:///EffectCourt.java"), JavaFileObject.Kind.SOURCE) {
            @Override
            public CharSequence getCharContent(boolean ignoreErrors) {
                return text;
            }
        };
        List<String> options = List.of("--release", "17", "-proc:none");
        JavacTask task = (JavacTask) ToolProvider.getSystemJavaCompiler()
                .getTask(null, null, null, options, null, List.of(source));
        try {
            CompilationUnitTree unit = task.parse().iterator().next();
            task.analyze();
            Language language = new Language(Trees.instance(task), unit);
            language.look();
            return language.breaks;
        } catch (IOException e) {
            throw new IllegalStateException(e);
        }
    }

    private void look() {
        if (unit.getPackageName() != null || unit.getTypeDecls().size() != 1) {
            say(1, unit, "one class without a package");
        }
        for (Tree tree : unit.getTypeDecls()) {
            for (Tree member : ((ClassTree) tree).getMembers()) {
                if (member instanceof MethodTree each && is(each, Modifier.PUBLIC)) {
                    publicNames.add(each.getName().toString());
                }
            }
        }
        scan(unit, null);
        if (classNames.size() > MOST_CLASSES) {
            say(11, unit, "classes: " + classNames.size());
        }
        lookAtCalls();
    }

    private void say(int rule, Tree where, String what) {
        long line = unit.getLineMap()
                .getLineNumber(trees.getSourcePositions().getStartPosition(unit, where));
        breaks.add(rule + ": " + line + ": " + what);
    }

    private static boolean is(MethodTree each, Modifier modifier) {
        return each.getModifiers().getFlags().contains(modifier);
    }

    private static boolean isConstructor(MethodTree each) {
        return each != null && each.getName().contentEquals("<init>");
    }

    private TypeMirror typeOf(Tree tree) {
        return trees.getTypeMirror(trees.getPath(unit, tree));
    }

    private Element elementOf(Tree tree) {
        return trees.getElement(trees.getPath(unit, tree));
    }

    private boolean isOwn(Element each) {
        return each != null && trees.getTree(each) != null;
    }

    // ---- classes, fields and methods

    @Override
    public Void visitImport(ImportTree tree, Void none) {
        if (!tree.getQualifiedIdentifier().toString().equals("java.util.NoSuchElementException")) {
            say(4, tree, "import");
        }
        return super.visitImport(tree, none);
    }

    @Override
    public Void visitClass(ClassTree tree, Void none) {
        Set<Modifier> flags = tree.getModifiers().getFlags();
        classNames.add(tree.getSimpleName().toString());
        if (classNames.size() == 1) {
            if (!flags.equals(Set.of(Modifier.PUBLIC, Modifier.FINAL))) {
                say(1, tree, "the class is not public and final");
            }
        } else if (!flags.contains(Modifier.STATIC) || flags.contains(Modifier.PUBLIC)
                || flags.contains(Modifier.PROTECTED)) {
            say(1, tree, "a class inside is not static, or too visible");
        }
        if (tree.getExtendsClause() != null || !tree.getImplementsClause().isEmpty()) {
            say(6, tree, "a class of this program extends and implements nothing");
        }
        int fields = 0;
        for (Tree member : tree.getMembers()) {
            if (member instanceof BlockTree) {
                say(5, member, "an initialiser block");
            } else if (member instanceof VariableTree field) {
                fields += lookAtField(field) ? 1 : 0;
            }
        }
        if (fields > MOST_FIELDS) {
            say(11, tree, "fields: " + fields);
        }
        return super.visitClass(tree, none);
    }

    /** Whether it is a field of each object. */
    private boolean lookAtField(VariableTree field) {
        Set<Modifier> flags = field.getModifiers().getFlags();
        if (!flags.contains(Modifier.PRIVATE)) {
            say(1, field, "a field that is not private");
        }
        if (!flags.contains(Modifier.STATIC)) {
            return true;
        }
        TypeMirror type = typeOf(field);
        boolean isConstant = CONSTANTS.contains(type.getKind())
                || type.toString().equals("java.lang.String");
        if (!flags.contains(Modifier.FINAL) || !isConstant) {
            say(5, field, "a static field that is no constant");
        }
        return false;
    }

    @Override
    public Void visitVariable(VariableTree tree, Void none) {
        TypeMirror type = typeOf(tree);
        TypeMirror core = type instanceof ArrayType array ? array.getComponentType() : type;
        boolean isNumber = core.getKind().isPrimitive();
        boolean isOwnObject = core == type && core instanceof DeclaredType declared
                && isOwn(declared.asElement());
        if (!isNumber && !isOwnObject && !type.toString().equals("java.lang.String")) {
            say(3, tree, "a " + type);
        }
        return super.visitVariable(tree, none);
    }

    @Override
    public Void visitMethod(MethodTree tree, Void none) {
        String name = tree.getName().toString();
        if (is(tree, Modifier.PRIVATE) && publicNames.contains(name) && !isConstructor(tree)) {
            say(1, tree, "a private method with a public name");
        }
        if (OBJECT_METHODS.contains(name)) {
            say(6, tree, name);
        }
        if (is(tree, Modifier.SYNCHRONIZED)) {
            say(6, tree, "synchronized");
        }
        if (tree.getParameters().size() > MOST_PARAMETERS) {
            say(11, tree, "parameters");
        }
        if (linesOf(tree) > MOST_LINES) {
            say(11, tree, "lines: " + linesOf(tree));
        }
        calls.putIfAbsent(elementOf(tree), new LinkedHashSet<>());
        method = tree;
        super.visitMethod(tree, none);
        method = null;
        return null;
    }

    private long linesOf(Tree tree) {
        long start = trees.getSourcePositions().getStartPosition(unit, tree);
        long end = trees.getSourcePositions().getEndPosition(unit, tree);
        return end < 0 ? 0 : unit.getLineMap().getLineNumber(end)
                - unit.getLineMap().getLineNumber(start) + 1;
    }

    // ---- what may not stand anywhere

    @Override
    public Void visitLambdaExpression(LambdaExpressionTree tree, Void none) {
        say(2, tree, "a lambda");
        return super.visitLambdaExpression(tree, none);
    }

    @Override
    public Void visitMemberReference(MemberReferenceTree tree, Void none) {
        say(2, tree, "a method reference");
        return super.visitMemberReference(tree, none);
    }

    @Override
    public Void visitSynchronized(SynchronizedTree tree, Void none) {
        say(6, tree, "synchronized");
        return super.visitSynchronized(tree, none);
    }

    @Override
    public Void visitAssert(AssertTree tree, Void none) {
        say(6, tree, "assert");
        return super.visitAssert(tree, none);
    }

    @Override
    public Void visitTry(TryTree tree, Void none) {
        say(6, tree, "this program catches nothing");
        return super.visitTry(tree, none);
    }

    @Override
    public Void visitCatch(CatchTree tree, Void none) {
        say(6, tree, "this program catches nothing");
        return super.visitCatch(tree, none);
    }

    @Override
    public Void visitThrow(ThrowTree tree, Void none) {
        boolean written = tree.getExpression() instanceof NewClassTree made
                && EXCEPTIONS.contains(made.getIdentifier().toString())
                && made.getClassBody() == null && made.getArguments().size() <= 1
                && made.getArguments().stream().allMatch(LiteralTree.class::isInstance);
        if (!written || isConstructor(method)) {
            say(6, tree, "throw");
        }
        throwing = true;
        super.visitThrow(tree, none);
        throwing = false;
        return null;
    }

    @Override
    public Void visitTypeCast(TypeCastTree tree, Void none) {
        if (!typeOf(tree.getType()).getKind().isPrimitive()) {
            say(6, tree, "this program casts numbers alone");
        }
        return super.visitTypeCast(tree, none);
    }

    @Override
    public Void visitLiteral(LiteralTree tree, Void none) {
        if (tree.getValue() instanceof String text
                && !text.chars().allMatch(sign -> sign >= 1 && sign <= 127)) {
            say(4, tree, "a sign beyond 127");
        }
        return super.visitLiteral(tree, none);
    }

    // ---- what the machine could throw at

    private boolean isInHolder() {
        return method != null && elementOf(method).getEnclosingElement().getSimpleName()
                .contentEquals(ONLY_HOLDER_OF_ARRAYS);
    }

    @Override
    public Void visitArrayAccess(ArrayAccessTree tree, Void none) {
        if (!isInHolder()) {
            say(7, tree, "only " + ONLY_HOLDER_OF_ARRAYS + " looks into arrays");
        }
        return super.visitArrayAccess(tree, none);
    }

    @Override
    public Void visitNewArray(NewArrayTree tree, Void none) {
        if (!isConstructor(method) || !isInHolder()) {
            say(7, tree, "only the constructor of " + ONLY_HOLDER_OF_ARRAYS + " makes arrays");
        }
        return super.visitNewArray(tree, none);
    }

    @Override
    public Void visitBinary(BinaryTree tree, Void none) {
        boolean divides = tree.getKind() == Tree.Kind.DIVIDE
                || tree.getKind() == Tree.Kind.REMAINDER;
        if (divides && isWhole(tree) && isZeroOrUnknown(tree.getRightOperand())) {
            say(7, tree, "a divisor that may be 0");
        }
        if (tree.getKind() == Tree.Kind.PLUS && !typeOf(tree).getKind().isPrimitive()) {
            say(10, tree, "texts joined by +");
        }
        return super.visitBinary(tree, none);
    }

    @Override
    public Void visitCompoundAssignment(CompoundAssignmentTree tree, Void none) {
        boolean divides = tree.getKind() == Tree.Kind.DIVIDE_ASSIGNMENT
                || tree.getKind() == Tree.Kind.REMAINDER_ASSIGNMENT;
        if (divides && isWhole(tree) && isZeroOrUnknown(tree.getExpression())) {
            say(7, tree, "a divisor that may be 0");
        }
        if (!typeOf(tree).getKind().isPrimitive()) {
            say(10, tree, "texts joined by +=");
        }
        return super.visitCompoundAssignment(tree, none);
    }

    private boolean isWhole(Tree tree) {
        TypeKind kind = typeOf(tree).getKind();
        return kind != TypeKind.DOUBLE && kind != TypeKind.FLOAT;
    }

    private boolean isZeroOrUnknown(ExpressionTree divisor) {
        Object value = null;
        if (divisor instanceof LiteralTree literal) {
            value = literal.getValue();
        } else if (elementOf(divisor) instanceof VariableElement named) {
            value = named.getConstantValue();
        }
        return !(value instanceof Number number) || number.longValue() == 0;
    }

    // ---- loops

    @Override
    public Void visitForLoop(ForLoopTree tree, Void none) {
        lookAtEnd(tree, tree.getCondition());
        loops++;
        super.visitForLoop(tree, none);
        loops--;
        return null;
    }

    @Override
    public Void visitWhileLoop(WhileLoopTree tree, Void none) {
        lookAtEnd(tree, tree.getCondition());
        loops++;
        super.visitWhileLoop(tree, none);
        loops--;
        return null;
    }

    @Override
    public Void visitDoWhileLoop(DoWhileLoopTree tree, Void none) {
        lookAtEnd(tree, tree.getCondition());
        loops++;
        super.visitDoWhileLoop(tree, none);
        loops--;
        return null;
    }

    private void lookAtEnd(Tree loop, ExpressionTree condition) {
        ExpressionTree inner = condition;
        while (inner instanceof ParenthesizedTree round) {
            inner = round.getExpression();
        }
        if (inner == null || inner instanceof LiteralTree) {
            say(9, loop, "a loop without an end");
        }
    }

    // ---- calls

    @Override
    public Void visitNewClass(NewClassTree tree, Void none) {
        Element made = elementOf(tree);
        addCall(made);
        if (!throwing && !isOwn(made.getEnclosingElement())) {
            say(4, tree, "new " + tree.getIdentifier());
        }
        boolean isMaking = method == null || isConstructor(method);
        if (!throwing && (loops > 0 || !isMaking)) {
            say(12, tree, "this program makes objects in constructors alone, and in no loop");
        }
        return super.visitNewClass(tree, none);
    }

    @Override
    public Void visitMethodInvocation(MethodInvocationTree tree, Void none) {
        Element called = elementOf(tree);
        boolean isSuper = tree.getMethodSelect() instanceof IdentifierTree name
                && name.getName().contentEquals("super");
        if (isOwn(called)) {
            addCall(called);
            if (isConstructor(method)) {
                say(12, tree, "a constructor that calls");
            }
        } else if (!isSuper) {
            TypeElement owner = (TypeElement) called.getEnclosingElement();
            String name = owner.getSimpleName() + "." + called.getSimpleName();
            if (!CALLS.contains(name)) {
                say(4, tree, name);
            }
        }
        return super.visitMethodInvocation(tree, none);
    }

    private void addCall(Element called) {
        if (method != null) {
            calls.get(elementOf(method)).add(called);
        }
    }

    private void lookAtCalls() {
        for (Element each : calls.keySet()) {
            if (reach(each).contains(each) && !each.getModifiers().contains(Modifier.PRIVATE)) {
                say(8, trees.getTree(each), "a method that calls itself and is not private");
            }
            int depth = depth(each, new LinkedHashSet<>());
            if (each.getModifiers().contains(Modifier.PUBLIC) && depth > DEEPEST) {
                say(11, trees.getTree(each), "calls " + depth + " deep");
            }
        }
    }

    /** All that is called from a method, over others too. */
    private Set<Element> reach(Element start) {
        Set<Element> found = new LinkedHashSet<>(calls.getOrDefault(start, Set.of()));
        List<Element> open = new ArrayList<>(found);
        for (int next = 0; next < open.size(); next++) {
            for (Element each : calls.getOrDefault(open.get(next), Set.of())) {
                if (found.add(each)) {
                    open.add(each);
                }
            }
        }
        return found;
    }

    /** The methods of the longest chain of calls, each one counted once. */
    private int depth(Element start, Set<Element> chain) {
        if (!(start instanceof ExecutableElement) || !chain.add(start)) {
            return 0;
        }
        int deepest = 0;
        for (Element each : calls.getOrDefault(start, Set.of())) {
            deepest = Math.max(deepest, depth(each, chain));
        }
        chain.remove(start);
        return deepest + 1;
    }
}
