import com.sun.source.tree.ArrayAccessTree;
import com.sun.source.tree.AssertTree;
import com.sun.source.tree.BinaryTree;
import com.sun.source.tree.BlockTree;
import com.sun.source.tree.ClassTree;
import com.sun.source.tree.CompilationUnitTree;
import com.sun.source.tree.CompoundAssignmentTree;
import com.sun.source.tree.DoWhileLoopTree;
import com.sun.source.tree.ExpressionTree;
import com.sun.source.tree.ForLoopTree;
import com.sun.source.tree.ImportTree;
import com.sun.source.tree.LambdaExpressionTree;
import com.sun.source.tree.LiteralTree;
import com.sun.source.tree.MemberReferenceTree;
import com.sun.source.tree.MethodInvocationTree;
import com.sun.source.tree.MethodTree;
import com.sun.source.tree.NewArrayTree;
import com.sun.source.tree.NewClassTree;
import com.sun.source.tree.ParenthesizedTree;
import com.sun.source.tree.SynchronizedTree;
import com.sun.source.tree.ThrowTree;
import com.sun.source.tree.Tree;
import com.sun.source.tree.TryTree;
import com.sun.source.tree.TypeCastTree;
import com.sun.source.tree.VariableTree;
import com.sun.source.tree.WhileLoopTree;
import com.sun.source.util.JavacTask;
import com.sun.source.util.TreePath;
import com.sun.source.util.TreePathScanner;
import com.sun.source.util.Trees;
import java.io.IOException;
import java.net.URI;
import java.util.ArrayList;
import java.util.HashMap;
import java.util.LinkedHashMap;
import java.util.LinkedHashSet;
import java.util.List;
import java.util.Map;
import java.util.Set;
import javax.lang.model.element.Element;
import javax.lang.model.element.ElementKind;
import javax.lang.model.element.ExecutableElement;
import javax.lang.model.element.Modifier;
import javax.lang.model.element.TypeElement;
import javax.lang.model.element.VariableElement;
import javax.lang.model.type.ArrayType;
import javax.lang.model.type.DeclaredType;
import javax.lang.model.type.TypeKind;
import javax.lang.model.type.TypeMirror;
import javax.tools.JavaCompiler;
import javax.tools.JavaFileObject;
import javax.tools.SimpleJavaFileObject;
import javax.tools.ToolProvider;

/**
 * Reads a source through the compiler's own tree and tells where it leaves the rules of LANGUAGE.md. It is stricter
 * than these where the class needs less: no try, no while, no object made outside of constructors but exceptions.
 */
final class SourceRules extends TreePathScanner<Void, Void> {
    private static final int LONGEST_METHOD = 60;
    private static final int MOST_PARAMETERS = 7;
    private static final int DEEPEST_CALLS = 8;
    private static final int MOST_CLASSES = 12;
    private static final int MOST_FIELDS = 20;

    private static final Set<String> EXCEPTIONS = Set.of("IllegalStateException", "IllegalArgumentException",
            "IndexOutOfBoundsException", "ArithmeticException", "UnsupportedOperationException",
            "NoSuchElementException", "RuntimeException");
    private static final Set<String> TYPES = Set.of("String", "StringBuilder", "Integer", "ArrayList", "List",
            "Iterator", "Iterable", "Comparable");
    private static final Map<String, Set<String>> LIBRARY = Map.of(
            "Object", Set.of("<init>"),
            "String", Set.of("length", "charAt", "isEmpty", "equals", "indexOf", "substring", "toCharArray"),
            "StringBuilder", Set.of("append", "charAt", "setCharAt", "setLength", "deleteCharAt", "reverse", "length",
                    "toString"),
            "ArrayList", Set.of("add", "get", "set", "remove", "size", "isEmpty", "clear"),
            "List", Set.of("add", "get", "set", "remove", "size", "isEmpty", "clear", "of"),
            "Integer", Set.of("compare", "max", "min", "bitCount", "signum", "numberOfTrailingZeros",
                    "numberOfLeadingZeros"),
            "Long", Set.of("compare", "max", "min", "bitCount", "signum", "numberOfTrailingZeros",
                    "numberOfLeadingZeros"),
            "Math", Set.of("min", "max", "abs", "floorDiv", "floorMod"),
            "System", Set.of("arraycopy"),
            "Arrays", Set.of("copyOf", "copyOfRange", "fill"));

    private final Trees trees;
    private final CompilationUnitTree unit;
    private final List<String> broken = new ArrayList<>();
    private final Map<ExecutableElement, Set<ExecutableElement>> calls = new LinkedHashMap<>();
    private final Map<ExecutableElement, Integer> depths = new HashMap<>();
    private final Set<ExecutableElement> entered = new LinkedHashSet<>();
    private MethodTree method = null;
    private int classes = 0;

    private SourceRules(Trees trees, CompilationUnitTree unit) {
        this.trees = trees;
        this.unit = unit;
    }

    /** What the source breaks, each with its rule and its line; a source that does not compile is no Java at all. */
    static List<String> brokenIn(String source) throws IOException {
        JavaFileObject file = new SimpleJavaFileObject(URI.create("string:///SubstituteDesk.java"),
                JavaFileObject.Kind.SOURCE) {
            @Override
            public CharSequence getCharContent(boolean ignoreEncodingErrors) {
                return source;
            }
        };
        JavaCompiler compiler = ToolProvider.getSystemJavaCompiler();
        List<String> errors = new ArrayList<>();
        JavacTask task = (JavacTask) compiler.getTask(null, null, told -> errors.add(told.toString()),
                List.of("-proc:none", "--release", "17"), null, List.of(file));
        CompilationUnitTree unit = task.parse().iterator().next();
        task.analyze();
        if (!errors.isEmpty()) {
            return errors;
        }
        SourceRules rules = new SourceRules(Trees.instance(task), unit);
        rules.scan(unit, null);
        rules.readCalls();
        return rules.broken;
    }

    private void keep(int rule, boolean isKept, Tree tree, String what) {
        if (!isKept) {
            long line = unit.getLineMap().getLineNumber(trees.getSourcePositions().getStartPosition(unit, tree));
            broken.add("rule " + rule + ", line " + line + ": " + what);
        }
    }

    // ---- the file, classes and fields

    @Override
    public Void visitCompilationUnit(CompilationUnitTree tree, Void none) {
        keep(1, tree.getPackageName() == null, tree, "package");
        super.visitCompilationUnit(tree, none);
        keep(1, tree.getTypeDecls().size() == 1, tree, "one class beside the classes inside it");
        keep(11, classes <= MOST_CLASSES, tree, classes + " classes");
        return none;
    }

    @Override
    public Void visitImport(ImportTree tree, Void none) {
        String name = tree.getQualifiedIdentifier().toString();
        String simple = name.substring(name.lastIndexOf('.') + 1);
        keep(4, !tree.isStatic() && name.equals("java.util." + simple)
                && (EXCEPTIONS.contains(simple) || TYPES.contains(simple) || simple.equals("Arrays")), tree, name);
        return none;
    }

    @Override
    public Void visitClass(ClassTree tree, Void none) {
        classes++;
        Element element = trees.getElement(getCurrentPath());
        keep(2, method == null, tree, "a class inside of a method");
        boolean isInside = getCurrentPath().getParentPath().getLeaf() instanceof ClassTree;
        keep(1, !isInside || element.getModifiers().contains(Modifier.STATIC), tree, "an inner class");
        int fields = 0;
        for (Tree member : tree.getMembers()) {
            keep(5, !(member instanceof BlockTree), member, "a block that initialises");
            if (member instanceof VariableTree) {
                fields += ((VariableTree) member).getModifiers().getFlags().contains(Modifier.STATIC) ? 0 : 1;
            }
        }
        keep(11, fields <= MOST_FIELDS, tree, fields + " fields");
        return super.visitClass(tree, none);
    }

    @Override
    public Void visitVariable(VariableTree tree, Void none) {
        Element element = trees.getElement(getCurrentPath());
        keep(3, isAllowed(element.asType()), tree, "type " + element.asType());
        if (element.getKind() == ElementKind.FIELD) {
            Set<Modifier> flags = element.getModifiers();
            boolean isStatic = flags.contains(Modifier.STATIC);
            keep(1, flags.contains(Modifier.PRIVATE), tree, "a field that others see");
            keep(5, !isStatic || flags.contains(Modifier.FINAL), tree, "a static field that is not final");
            keep(5, !isStatic || ((VariableElement) element).getConstantValue() != null, tree, "no constant");
        }
        return super.visitVariable(tree, none);
    }

    private boolean isAllowed(TypeMirror type) {
        if (type.getKind() == TypeKind.ARRAY) {
            TypeMirror part = ((ArrayType) type).getComponentType();
            boolean isRows = part.getKind() == TypeKind.ARRAY
                    && ((ArrayType) part).getComponentType().getKind().isPrimitive();
            return part.getKind().isPrimitive() || isRows || isOwn(type(part));
        }
        boolean isPlain = type.getKind().isPrimitive() || type.getKind() == TypeKind.VOID
                || type.getKind() == TypeKind.TYPEVAR;
        return isPlain || isOwn(type(type)) || TYPES.contains(nameOf(type(type)));
    }

    private static Element type(TypeMirror type) {
        return type instanceof DeclaredType ? ((DeclaredType) type).asElement() : null;
    }

    private boolean isOwn(Element element) {
        return element != null && trees.getPath(element) != null;
    }

    private static String nameOf(Element element) {
        return element == null ? "" : element.getSimpleName().toString();
    }

    // ---- methods and what they call

    @Override
    public Void visitMethod(MethodTree tree, Void none) {
        MethodTree outer = method;
        method = tree;
        ExecutableElement element = (ExecutableElement) trees.getElement(getCurrentPath());
        calls.put(element, new LinkedHashSet<>());
        keep(11, tree.getParameters().size() <= MOST_PARAMETERS, tree, "too many parameters");
        keep(11, linesOf(tree) <= LONGEST_METHOD, tree, linesOf(tree) + " lines");
        keep(3, isAllowed(element.getReturnType()), tree, "type " + element.getReturnType());
        super.visitMethod(tree, none);
        method = outer;
        return none;
    }

    private long linesOf(Tree tree) {
        long first = unit.getLineMap().getLineNumber(trees.getSourcePositions().getStartPosition(unit, tree));
        return unit.getLineMap().getLineNumber(trees.getSourcePositions().getEndPosition(unit, tree)) - first + 1;
    }

    @Override
    public Void visitMethodInvocation(MethodInvocationTree tree, Void none) {
        Element called = trees.getElement(new TreePath(getCurrentPath(), tree.getMethodSelect()));
        noteCall(called);
        if (!isOwn(called)) {
            String owner = nameOf(called.getEnclosingElement());
            boolean isListed = LIBRARY.getOrDefault(owner, Set.of()).contains(nameOf(called));
            keep(4, isListed || owner.equals("Array") && nameOf(called).equals("clone"), tree,
                    owner + "." + nameOf(called));
        }
        return super.visitMethodInvocation(tree, none);
    }

    private void noteCall(Element called) {
        if (method != null && isOwn(called)) {
            calls.get((ExecutableElement) trees.getElement(pathOf(method))).add((ExecutableElement) called);
        }
    }

    private TreePath pathOf(Tree tree) {
        return trees.getPath(unit, tree);
    }

    /** Recursion is one static method that calls itself and carries its depth; other calls go eight deep at most. */
    private void readCalls() {
        for (ExecutableElement element : calls.keySet()) {
            Tree tree = trees.getTree(element);
            if (calls.get(element).contains(element)) {
                boolean isCarried = element.getParameters().stream()
                        .anyMatch(p -> p.getSimpleName().contentEquals("depth"));
                boolean isGuarded = ((MethodTree) tree).getBody().toString().matches("(?s).*\\bdepth >=? .*");
                keep(8, isCarried && isGuarded && element.getModifiers().contains(Modifier.STATIC)
                        && element.getModifiers().contains(Modifier.PRIVATE), tree, "recursion without a guard");
            }
            int depth = depthOf(element);
            keep(11, depth <= DEEPEST_CALLS, tree, depth + " calls deep");
        }
    }

    private int depthOf(ExecutableElement element) {
        Integer known = depths.get(element);
        if (known != null) {
            return known;
        }
        entered.add(element);
        int deepest = 0;
        for (ExecutableElement called : calls.getOrDefault(element, Set.of())) {
            boolean isOpen = entered.contains(called);
            keep(8, !isOpen || called == element, trees.getTree(element), "methods that call one another");
            deepest = Math.max(deepest, isOpen ? 0 : depthOf(called));
        }
        entered.remove(element);
        depths.put(element, deepest + 1);
        return deepest + 1;
    }

    // ---- objects and exceptions

    @Override
    public Void visitNewClass(NewClassTree tree, Void none) {
        Element made = trees.getElement(getCurrentPath());
        noteCall(made);
        boolean isThrown = getCurrentPath().getParentPath().getLeaf() instanceof ThrowTree;
        boolean isLasting = method == null || isConstructor();
        keep(12, isThrown || isLasting, tree, "an object that a call makes");
        keep(3, isThrown || isOwn(made.getEnclosingElement()), tree, "an object of another class");
        keep(2, tree.getClassBody() == null, tree, "an anonymous class");
        return super.visitNewClass(tree, none);
    }

    private boolean isConstructor() {
        return method != null && method.getName().contentEquals("<init>");
    }

    @Override
    public Void visitNewArray(NewArrayTree tree, Void none) {
        keep(12, method == null || isConstructor(), tree, "an array that a call makes");
        for (ExpressionTree length : tree.getDimensions()) {
            keep(7, isPositive(length), length, "a length that is not tested");
        }
        return super.visitNewArray(tree, none);
    }

    @Override
    public Void visitThrow(ThrowTree tree, Void none) {
        keep(6, !isConstructor(), tree, "a throw in a constructor");
        boolean isNew = tree.getExpression() instanceof NewClassTree;
        keep(6, isNew, tree, "no new exception");
        if (isNew) {
            NewClassTree made = (NewClassTree) tree.getExpression();
            keep(6, EXCEPTIONS.contains(made.getIdentifier().toString()), tree, made.getIdentifier().toString());
            boolean isWritten = made.getArguments().isEmpty()
                    || made.getArguments().size() == 1 && made.getArguments().get(0) instanceof LiteralTree;
            keep(6, isWritten, tree, "a text that is not written out");
        }
        return super.visitThrow(tree, none);
    }

    @Override
    public Void visitTry(TryTree tree, Void none) {
        keep(6, false, tree, "try");
        return super.visitTry(tree, none);
    }

    @Override
    public Void visitLambdaExpression(LambdaExpressionTree tree, Void none) {
        keep(2, false, tree, "a lambda");
        return super.visitLambdaExpression(tree, none);
    }

    @Override
    public Void visitMemberReference(MemberReferenceTree tree, Void none) {
        keep(2, false, tree, "a method reference");
        return super.visitMemberReference(tree, none);
    }

    @Override
    public Void visitSynchronized(SynchronizedTree tree, Void none) {
        keep(6, false, tree, "synchronized");
        return super.visitSynchronized(tree, none);
    }

    @Override
    public Void visitAssert(AssertTree tree, Void none) {
        keep(6, false, tree, "assert");
        return super.visitAssert(tree, none);
    }

    // ---- what the machine could throw, and loops

    /** The method must look at the length of the row, and compare what the index is made of. */
    @Override
    public Void visitArrayAccess(ArrayAccessTree tree, Void none) {
        String text = method == null ? "" : method.getBody().toString();
        String row = tree.getExpression().toString();
        String index = tree.getIndex().toString().replace(" + 1", "");
        boolean isNext = !index.equals(tree.getIndex().toString());
        boolean isCompared = text.contains(index + " < " + row + ".length" + (isNext ? " - 1" : ""));
        boolean isCounted = text.contains("int " + index + " = 0") || text.contains(index + " >= 0")
                || text.contains("int " + index + " = Math.max(index, 0)");
        keep(7, isCompared && isCounted, tree, "an index that is not tested: " + tree);
        return super.visitArrayAccess(tree, none);
    }

    @Override
    public Void visitBinary(BinaryTree tree, Void none) {
        if (tree.getKind() == Tree.Kind.DIVIDE || tree.getKind() == Tree.Kind.REMAINDER) {
            readDivisor(tree.getRightOperand());
        }
        if (tree.getKind() == Tree.Kind.PLUS) {
            keep(10, !isText(tree.getLeftOperand()) && !isText(tree.getRightOperand()), tree, "texts joined by +");
        }
        return super.visitBinary(tree, none);
    }

    @Override
    public Void visitCompoundAssignment(CompoundAssignmentTree tree, Void none) {
        if (tree.getKind() == Tree.Kind.DIVIDE_ASSIGNMENT || tree.getKind() == Tree.Kind.REMAINDER_ASSIGNMENT) {
            readDivisor(tree.getExpression());
        }
        keep(10, !isText(tree.getVariable()), tree, "texts joined by +");
        return super.visitCompoundAssignment(tree, none);
    }

    /** A divisor is a positive constant, or it is refused below 1 or at 0 before it divides. */
    private void readDivisor(ExpressionTree divisor) {
        String text = method == null ? "" : method.getBody().toString();
        String name = divisor.toString().replace("(double)", "");
        boolean isTested = text.contains(name + " < 1 ?") || text.contains("if (" + name + " == 0) {");
        keep(7, isPositive(divisor) || isTested, divisor, "a divisor that is not tested: " + divisor);
    }

    private boolean isPositive(ExpressionTree tree) {
        if (tree instanceof ParenthesizedTree) {
            return isPositive(((ParenthesizedTree) tree).getExpression());
        }
        if (tree instanceof LiteralTree) {
            Object value = ((LiteralTree) tree).getValue();
            return value instanceof Integer && (Integer) value > 0;
        }
        if (tree.getKind() == Tree.Kind.MULTIPLY) {
            BinaryTree product = (BinaryTree) tree;
            return isPositive(product.getLeftOperand()) && isPositive(product.getRightOperand());
        }
        Element element = trees.getElement(pathOf(tree));
        Object value = element instanceof VariableElement ? ((VariableElement) element).getConstantValue() : null;
        return value instanceof Integer && (Integer) value > 0;
    }

    private boolean isText(ExpressionTree tree) {
        TypeMirror type = trees.getTypeMirror(pathOf(tree));
        return nameOf(type(type)).equals("String");
    }

    @Override
    public Void visitTypeCast(TypeCastTree tree, Void none) {
        keep(7, trees.getTypeMirror(pathOf(tree.getType())).getKind().isPrimitive(), tree, "a cast: " + tree);
        return super.visitTypeCast(tree, none);
    }

    @Override
    public Void visitForLoop(ForLoopTree tree, Void none) {
        String condition = String.valueOf(tree.getCondition());
        boolean isCounted = tree.getInitializer().size() == 1 && tree.getUpdate().size() == 1
                && tree.getUpdate().get(0).toString().contains("++") && condition.contains(" < ");
        keep(9, isCounted, tree, "a loop without a counter against a bound");
        return super.visitForLoop(tree, none);
    }

    @Override
    public Void visitWhileLoop(WhileLoopTree tree, Void none) {
        keep(9, false, tree, "while");
        return super.visitWhileLoop(tree, none);
    }

    @Override
    public Void visitDoWhileLoop(DoWhileLoopTree tree, Void none) {
        keep(9, false, tree, "do");
        return super.visitDoWhileLoop(tree, none);
    }

    @Override
    public Void visitLiteral(LiteralTree tree, Void none) {
        boolean isPlain = true;
        for (char sign : String.valueOf(tree.getValue()).toCharArray()) {
            isPlain &= sign >= 1 && sign <= 127;
        }
        keep(4, isPlain, tree, "a sign that is not 1 to 127");
        return super.visitLiteral(tree, none);
    }
}
