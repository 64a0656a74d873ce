import com.sun.source.tree.ArrayAccessTree;
import com.sun.source.tree.AssignmentTree;
import com.sun.source.tree.BinaryTree;
import com.sun.source.tree.BlockTree;
import com.sun.source.tree.ClassTree;
import com.sun.source.tree.CompilationUnitTree;
import com.sun.source.tree.CompoundAssignmentTree;
import com.sun.source.tree.DoWhileLoopTree;
import com.sun.source.tree.EnhancedForLoopTree;
import com.sun.source.tree.ExpressionTree;
import com.sun.source.tree.ForLoopTree;
import com.sun.source.tree.LiteralTree;
import com.sun.source.tree.MethodInvocationTree;
import com.sun.source.tree.MethodTree;
import com.sun.source.tree.NewArrayTree;
import com.sun.source.tree.NewClassTree;
import com.sun.source.tree.PrimitiveTypeTree;
import com.sun.source.tree.ThrowTree;
import com.sun.source.tree.Tree;
import com.sun.source.tree.TypeCastTree;
import com.sun.source.tree.UnaryTree;
import com.sun.source.tree.VariableTree;
import com.sun.source.tree.WhileLoopTree;
import com.sun.source.util.JavacTask;
import com.sun.source.util.TreePath;
import com.sun.source.util.TreePathScanner;
import com.sun.source.util.Trees;
import java.io.IOException;
import java.net.URI;
import java.util.ArrayList;
import java.util.EnumSet;
import java.util.LinkedHashMap;
import java.util.LinkedHashSet;
import java.util.List;
import java.util.Map;
import java.util.Set;
import java.util.stream.Collectors;
import javax.lang.model.element.Element;
import javax.lang.model.element.ElementKind;
import javax.lang.model.element.Modifier;
import javax.lang.model.element.VariableElement;
import javax.lang.model.type.ArrayType;
import javax.lang.model.type.TypeMirror;
import javax.tools.JavaCompiler;
import javax.tools.JavaFileObject;
import javax.tools.SimpleJavaFileObject;
import javax.tools.ToolProvider;

/**
 * Reads a source as the compiler does, and tells each place that does not keep to ../shared/LANGUAGE.md. It allows no
 * more than the rules, and less where the class needs less: no try, no recursion, no list, no text but a constant.
 */
final class Language extends TreePathScanner<Void, Void> {
    private static final int MOST_PARAMETERS = 7;
    private static final int MOST_LINES = 60;
    private static final int MOST_DEEP = 8;
    private static final int MOST_CLASSES = 12;
    private static final int MOST_FIELDS = 20;

    private static final Set<String> EXCEPTIONS = Set.of("java.lang.IllegalStateException",
        "java.lang.IllegalArgumentException", "java.lang.IndexOutOfBoundsException", "java.lang.ArithmeticException",
        "java.lang.UnsupportedOperationException", "java.util.NoSuchElementException", "java.lang.RuntimeException");
    private static final Set<String> LIBRARY = Set.of("java.lang.Math.min(int,int)", "java.lang.Math.max(int,int)",
        "java.lang.Math.min(long,long)", "java.lang.Math.max(long,long)",
        "java.lang.System.arraycopy(java.lang.Object,int,java.lang.Object,int,int)");
    private static final Set<String> CONSTANTS = Set.of("int", "long", "boolean", "char", "java.lang.String");
    private static final Set<String> CONSTANT_ARRAYS = Set.of("int[]", "long[]", "char[]", "byte[]");
    private static final Set<String> OF_OBJECTS = Set.of("equals", "hashCode", "toString", "finalize", "clone");

    private static final Set<Tree.Kind> KINDS = EnumSet.of(Tree.Kind.COMPILATION_UNIT, Tree.Kind.CLASS, Tree.Kind.METHOD,
        Tree.Kind.VARIABLE, Tree.Kind.MODIFIERS, Tree.Kind.PRIMITIVE_TYPE, Tree.Kind.ARRAY_TYPE, Tree.Kind.IDENTIFIER,
        Tree.Kind.MEMBER_SELECT, Tree.Kind.BLOCK, Tree.Kind.EXPRESSION_STATEMENT, Tree.Kind.RETURN, Tree.Kind.IF,
        Tree.Kind.FOR_LOOP, Tree.Kind.ENHANCED_FOR_LOOP, Tree.Kind.WHILE_LOOP, Tree.Kind.DO_WHILE_LOOP,
        Tree.Kind.SWITCH, Tree.Kind.CASE, Tree.Kind.BREAK, Tree.Kind.CONTINUE, Tree.Kind.LABELED_STATEMENT,
        Tree.Kind.CONDITIONAL_EXPRESSION, Tree.Kind.PARENTHESIZED, Tree.Kind.THROW, Tree.Kind.METHOD_INVOCATION,
        Tree.Kind.NEW_CLASS, Tree.Kind.NEW_ARRAY, Tree.Kind.ARRAY_ACCESS, Tree.Kind.TYPE_CAST);

    private final JavacTask task;
    private final Trees trees;
    private final CompilationUnitTree unit;
    private final Map<String, Set<String>> calls = new LinkedHashMap<>();
    private final List<String> faults = new ArrayList<>();
    private final List<String> headers = new ArrayList<>();
    private String method = "";
    private boolean inConstructor;
    private int loops;
    private int classes;

    Language(String source) throws IOException {
        JavaCompiler compiler = ToolProvider.getSystemJavaCompiler();
        task = (JavacTask) compiler.getTask(null, null, problem -> faults.add("the compiler: " + problem.getMessage(null)),
            List.of("-proc:none"), null, List.of(new Text(source)));
        trees = Trees.instance(task);
        unit = task.parse().iterator().next();
        task.analyze();
        for (int at = 0; at < source.length(); at++) {
            if (source.charAt(at) > 127) {
                tell(4, "a sign above 127");
            }
        }
        if (unit.getPackageName() != null || !unit.getImports().isEmpty()) {
            tell(1, "a package line or an import");
        }
        if (faults.isEmpty()) {
            scan(unit, null);
            if (classes > MOST_CLASSES) {
                tell(11, classes + " classes");
            }
            int deepest = deepest();
            if (deepest > MOST_DEEP) {
                tell(11, "calls go " + deepest + " deep");
            }
        }
    }

    private static final class Text extends SimpleJavaFileObject {
        private final String text;

        Text(String text) {
            super(URI.create("string:///RoofDrains.java"), JavaFileObject.Kind.SOURCE);
            this.text = text;
        }

        @Override
        public CharSequence getCharContent(boolean ignoreEncodingErrors) {
            return text;
        }
    }

    /** Each begins with "rule " and its number. */
    List<String> faults() {
        return faults;
    }

    /** The public members in their order, as an interface has them. */
    List<String> headers() {
        return headers;
    }

    /** How many calls stand open at once, the one of the face and one of the library among them. */
    private int deepest() {
        int deepest = 0;
        for (String caller : calls.keySet()) {
            deepest = Math.max(deepest, deepFrom(caller, new LinkedHashSet<>()));
        }
        return deepest;
    }

    private int deepFrom(String caller, Set<String> open) {
        if (!open.add(caller)) {
            tell(8, "recursion of " + caller);
            return 0;
        }
        int deepest = 0;
        for (String callee : calls.getOrDefault(caller, Set.of())) {
            deepest = Math.max(deepest, deepFrom(callee, open));
        }
        open.remove(caller);
        return 1 + deepest;
    }

    private void tell(int rule, String what) {
        faults.add("rule " + rule + ": " + what + (method.isEmpty() ? "" : " in " + method));
    }

    private TypeMirror typeOf(Tree tree) {
        return trees.getTypeMirror(new TreePath(getCurrentPath(), tree));
    }

    /** A number that is written there, or a constant's name: it can be seen that it is not 0 and not negative. */
    private boolean isWrittenNumber(Tree tree) {
        if (tree instanceof LiteralTree) {
            return ((LiteralTree) tree).getValue() instanceof Integer && (Integer) ((LiteralTree) tree).getValue() > 0;
        }
        Element element = trees.getElement(new TreePath(getCurrentPath(), tree));
        Object value = element instanceof VariableElement ? ((VariableElement) element).getConstantValue() : null;
        return value instanceof Integer && (Integer) value > 0;
    }

    private static boolean isOwn(String type) {
        return type.equals("RoofDrains") || type.startsWith("RoofDrains.");
    }

    @Override
    public Void scan(Tree tree, Void nothing) {
        if (tree != null && !KINDS.contains(tree.getKind()) && !(tree instanceof BinaryTree)
                && !(tree instanceof UnaryTree) && !(tree instanceof AssignmentTree)
                && !(tree instanceof CompoundAssignmentTree) && !(tree instanceof LiteralTree)) {
            tell(2, tree.getKind() + "");
        }
        return super.scan(tree, nothing);
    }

    // -- classes, methods, variables

    @Override
    public Void visitClass(ClassTree tree, Void nothing) {
        classes++;
        Element element = trees.getElement(getCurrentPath());
        Set<Modifier> modifiers = element.getModifiers();
        boolean inside = element.getEnclosingElement().getKind() != ElementKind.PACKAGE;
        if (inside && (!modifiers.contains(Modifier.STATIC) || modifiers.contains(Modifier.PUBLIC)
                || modifiers.contains(Modifier.PROTECTED))) {
            tell(1, "a class inside that is not static, or not private or package-visible");
        }
        long fields = tree.getMembers().stream().filter(member -> member instanceof VariableTree
            && !((VariableTree) member).getModifiers().getFlags().contains(Modifier.STATIC)).count();
        if (fields > MOST_FIELDS) {
            tell(11, fields + " fields");
        }
        if (tree.getExtendsClause() != null) {
            tell(6, "a class that extends another");
        }
        return super.visitClass(tree, nothing);
    }

    @Override
    public Void visitMethod(MethodTree tree, Void nothing) {
        Element element = trees.getElement(getCurrentPath());
        method = nameOf(element);
        inConstructor = element.getKind() == ElementKind.CONSTRUCTOR;
        calls.putIfAbsent(method, new LinkedHashSet<>());
        if (element.getModifiers().contains(Modifier.PUBLIC)) {
            headers.add(headerOf(tree));
        }
        if (tree.getParameters().size() > MOST_PARAMETERS) {
            tell(11, tree.getParameters().size() + " parameters");
        }
        if (linesOf(tree) > MOST_LINES) {
            tell(11, linesOf(tree) + " lines");
        }
        if (OF_OBJECTS.contains(tree.getName().toString())) {
            tell(6, "a method of all objects");
        }
        if (tree.getReturnType() != null && !isFine(typeOf(tree.getReturnType()))) {
            tell(3, "the type " + tree.getReturnType());
        }
        super.visitMethod(tree, nothing);
        method = "";
        inConstructor = false;
        return null;
    }

    private static String nameOf(Element element) {
        return element.getEnclosingElement() + "." + element;
    }

    private static String headerOf(MethodTree tree) {
        String parameters = tree.getParameters().stream().map(parameter -> parameter.getType() + " " + parameter.getName())
            .collect(Collectors.joining(", ", "(", ")"));
        String exceptions = tree.getThrows().stream().map(Object::toString).collect(Collectors.joining(", "));
        return "public " + (tree.getReturnType() == null ? "RoofDrains" : tree.getReturnType() + " " + tree.getName())
            + parameters + (exceptions.isEmpty() ? "" : " throws " + exceptions) + ";";
    }

    private long linesOf(Tree tree) {
        long first = trees.getSourcePositions().getStartPosition(unit, tree);
        long last = trees.getSourcePositions().getEndPosition(unit, tree);
        return last < 0 ? 0 : unit.getLineMap().getLineNumber(last) - unit.getLineMap().getLineNumber(first) + 1;
    }

    @Override
    public Void visitVariable(VariableTree tree, Void nothing) {
        Element element = trees.getElement(getCurrentPath());
        TypeMirror type = element.asType();
        if (element.getModifiers().contains(Modifier.STATIC)) {
            visitConstant(tree, element, type);
        } else if (!isFine(type)) {
            tell(3, "the type " + type);
        }
        return super.visitVariable(tree, nothing);
    }

    private void visitConstant(VariableTree tree, Element element, TypeMirror type) {
        boolean writtenOut = tree.getInitializer() instanceof NewArrayTree
            && ((NewArrayTree) tree.getInitializer()).getInitializers() != null;
        if (!element.getModifiers().contains(Modifier.FINAL)) {
            tell(5, "a static field that is not final");
        }
        if (!CONSTANTS.contains(type.toString()) && !(CONSTANT_ARRAYS.contains(type.toString()) && writtenOut)) {
            tell(5, "a static field of type " + type);
        }
        if (element.getModifiers().contains(Modifier.PUBLIC)) {
            headers.add("public static final " + type + " " + tree.getName() + " = " + tree.getInitializer() + ";");
        }
    }

    private static boolean isFine(TypeMirror type) {
        TypeMirror inner = type instanceof ArrayType ? ((ArrayType) type).getComponentType() : type;
        return inner.getKind().isPrimitive() || isOwn(inner.toString()) || type.toString().equals("void");
    }

    @Override
    public Void visitBlock(BlockTree tree, Void nothing) {
        if (tree.isStatic()) {
            tell(5, "a static initialiser block");
        }
        return super.visitBlock(tree, nothing);
    }

    // -- calls, objects, exceptions

    @Override
    public Void visitMethodInvocation(MethodInvocationTree tree, Void nothing) {
        Element callee = trees.getElement(getCurrentPath());
        String name = nameOf(callee);
        if (callee.getKind() != ElementKind.CONSTRUCTOR) {
            calls.computeIfAbsent(method, none -> new LinkedHashSet<>()).add(name);
            if (!isOwn(callee.getEnclosingElement().toString()) && !LIBRARY.contains(name)) {
                tell(4, "a call of " + name);
            }
        }
        return super.visitMethodInvocation(tree, nothing);
    }

    @Override
    public Void visitNewClass(NewClassTree tree, Void nothing) {
        Element made = trees.getElement(getCurrentPath());
        String type = made.getEnclosingElement().toString();
        boolean thrown = getCurrentPath().getParentPath().getLeaf() instanceof ThrowTree;
        if (isOwn(type)) {
            calls.computeIfAbsent(method, none -> new LinkedHashSet<>()).add(nameOf(made));
        } else if (!thrown || !EXCEPTIONS.contains(type)) {
            tell(4, "a new " + type);
        }
        made();
        return super.visitNewClass(tree, nothing);
    }

    @Override
    public Void visitTypeCast(TypeCastTree tree, Void nothing) {
        if (!(tree.getType() instanceof PrimitiveTypeTree)) {
            tell(7, "a cast of an object");
        }
        return super.visitTypeCast(tree, nothing);
    }

    @Override
    public Void visitNewArray(NewArrayTree tree, Void nothing) {
        made();
        for (ExpressionTree length : tree.getDimensions()) {
            if (!isWrittenNumber(length)) {
                tell(7, "a length that is no constant");
            }
        }
        return super.visitNewArray(tree, nothing);
    }

    private void made() {
        if (loops > 0) {
            tell(12, "something new in a loop");
        }
    }

    @Override
    public Void visitThrow(ThrowTree tree, Void nothing) {
        if (inConstructor) {
            tell(6, "a throw in a constructor");
        }
        boolean written = tree.getExpression() instanceof NewClassTree
            && ((NewClassTree) tree.getExpression()).getArguments().stream().allMatch(text -> text instanceof LiteralTree);
        if (!written) {
            tell(6, "a throw of no new exception with a written text");
        }
        return super.visitThrow(tree, nothing);
    }

    // -- operators and loops

    @Override
    public Void visitBinary(BinaryTree tree, Void nothing) {
        for (ExpressionTree side : List.of(tree.getLeftOperand(), tree.getRightOperand())) {
            String type = typeOf(side).toString();
            if (type.equals("java.lang.String")) {
                tell(10, "a text in " + tree.getKind());
            }
            if (type.equals("double") && tree.getKind() == Tree.Kind.REMAINDER) {
                tell(3, "a double in " + tree.getKind());
            }
        }
        boolean divides = tree.getKind() == Tree.Kind.DIVIDE || tree.getKind() == Tree.Kind.REMAINDER;
        if (divides && !typeOf(tree).toString().equals("double") && !isWrittenNumber(tree.getRightOperand())) {
            tell(7, "a divisor that is no constant");
        }
        return super.visitBinary(tree, nothing);
    }

    @Override
    public Void visitAssignment(AssignmentTree tree, Void nothing) {
        visitChanged(tree.getVariable());
        return super.visitAssignment(tree, nothing);
    }

    @Override
    public Void visitCompoundAssignment(CompoundAssignmentTree tree, Void nothing) {
        visitChanged(tree.getVariable());
        if (tree.getKind() == Tree.Kind.DIVIDE_ASSIGNMENT || tree.getKind() == Tree.Kind.REMAINDER_ASSIGNMENT) {
            tell(7, "a divisor that is not looked at");
        }
        if (typeOf(tree.getVariable()).toString().equals("java.lang.String")) {
            tell(10, "a text in " + tree.getKind());
        }
        return super.visitCompoundAssignment(tree, nothing);
    }

    @Override
    public Void visitUnary(UnaryTree tree, Void nothing) {
        if (tree.getKind().name().contains("CREMENT")) {
            visitChanged(tree.getExpression());
        }
        return super.visitUnary(tree, nothing);
    }

    private void visitChanged(ExpressionTree changed) {
        if (changed instanceof ArrayAccessTree) {
            ExpressionTree array = ((ArrayAccessTree) changed).getExpression();
            Element element = trees.getElement(new TreePath(new TreePath(getCurrentPath(), changed), array));
            if (element != null && element.getModifiers().contains(Modifier.STATIC)) {
                tell(5, "a change of a constant array");
            }
        }
    }

    @Override
    public Void visitForLoop(ForLoopTree tree, Void nothing) {
        if (tree.getCondition() == null || tree.getUpdate().isEmpty()) {
            tell(9, "a for without an end");
        }
        loops++;
        super.visitForLoop(tree, nothing);
        loops--;
        return null;
    }

    @Override
    public Void visitEnhancedForLoop(EnhancedForLoopTree tree, Void nothing) {
        loops++;
        super.visitEnhancedForLoop(tree, nothing);
        loops--;
        return null;
    }

    @Override
    public Void visitWhileLoop(WhileLoopTree tree, Void nothing) {
        counted(tree.getCondition());
        loops++;
        super.visitWhileLoop(tree, nothing);
        loops--;
        return null;
    }

    @Override
    public Void visitDoWhileLoop(DoWhileLoopTree tree, Void nothing) {
        counted(tree.getCondition());
        loops++;
        super.visitDoWhileLoop(tree, nothing);
        loops--;
        return null;
    }

    /** A counter against a bound that is written there, so that the end can be seen from the loop's own lines. */
    private void counted(ExpressionTree condition) {
        if (!condition.toString().matches(".*\\w+ < \\d+L?.*")) {
            tell(9, "a while without a counter");
        }
    }
}
