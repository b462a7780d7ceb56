import com.sun.source.tree.ArrayAccessTree;
import com.sun.source.tree.AssertTree;
import com.sun.source.tree.AssignmentTree;
import com.sun.source.tree.BinaryTree;
import com.sun.source.tree.BlockTree;
import com.sun.source.tree.CatchTree;
import com.sun.source.tree.ClassTree;
import com.sun.source.tree.CompilationUnitTree;
import com.sun.source.tree.CompoundAssignmentTree;
import com.sun.source.tree.DoWhileLoopTree;
import com.sun.source.tree.EnhancedForLoopTree;
import com.sun.source.tree.ExpressionTree;
import com.sun.source.tree.ForLoopTree;
import com.sun.source.tree.IdentifierTree;
import com.sun.source.tree.LambdaExpressionTree;
import com.sun.source.tree.LiteralTree;
import com.sun.source.tree.MemberReferenceTree;
import com.sun.source.tree.MemberSelectTree;
import com.sun.source.tree.MethodInvocationTree;
import com.sun.source.tree.MethodTree;
import com.sun.source.tree.NewArrayTree;
import com.sun.source.tree.NewClassTree;
import com.sun.source.tree.ParenthesizedTree;
import com.sun.source.tree.SwitchTree;
import com.sun.source.tree.SynchronizedTree;
import com.sun.source.tree.ThrowTree;
import com.sun.source.tree.Tree;
import com.sun.source.tree.TryTree;
import com.sun.source.tree.TypeCastTree;
import com.sun.source.tree.UnaryTree;
import com.sun.source.tree.UnionTypeTree;
import com.sun.source.tree.VariableTree;
import com.sun.source.tree.WhileLoopTree;
import com.sun.source.util.JavacTask;
import com.sun.source.util.TreePath;
import com.sun.source.util.TreePathScanner;
import com.sun.source.util.TreeScanner;
import com.sun.source.util.Trees;
import java.util.ArrayList;
import java.util.HashMap;
import java.util.HashSet;
import java.util.LinkedHashSet;
import java.util.List;
import java.util.Map;
import java.util.Set;
import java.util.TreeSet;
import javax.lang.model.element.Element;
import javax.lang.model.element.ElementKind;
import javax.lang.model.element.ExecutableElement;
import javax.lang.model.element.Modifier;
import javax.lang.model.element.TypeElement;
import javax.lang.model.element.VariableElement;
import javax.lang.model.type.ArrayType;
import javax.lang.model.type.DeclaredType;
import javax.lang.model.type.TypeKind;
import javax.lang.model.type.TypeMirror;
import javax.tools.Diagnostic;
import javax.tools.DiagnosticCollector;
import javax.tools.JavaCompiler;
import javax.tools.JavaFileObject;
import javax.tools.ToolProvider;

/**
 * The rules of LANGUAGE.md, looked at in a source as the compiler reads it. Where a rule leaves more than the program
 * needs (recursion, divisors that are tested, casts behind instanceof), what is looked for here is narrower than the
 * rule: the first such use is told, and then it is time to write the look more finely.
 */
final class Rules extends TreePathScanner<Void, Void> {
    private static final int MOST_LINES = 65;
    private static final int MOST_PARAMETERS = 7;
    private static final int MOST_DEPTH = 8;
    private static final int MOST_CLASSES = 12;
    private static final int MOST_FIELDS = 20;
    private static final int LAST_SIGN = 127;

    private static final Set<String> EXCEPTIONS = Set.of("IllegalStateException", "IllegalArgumentException",
        "IndexOutOfBoundsException", "ArithmeticException", "UnsupportedOperationException", "NoSuchElementException",
        "RuntimeException");
    private static final Set<String> LIBRARY = Set.of(
        "String.length()", "String.charAt(int)", "String.isEmpty()", "String.equals(java.lang.Object)", "String.indexOf(int)",
        "String.substring(int)", "String.substring(int,int)", "String.toCharArray()", "String.<init>(char[])",
        "StringBuilder.<init>()", "StringBuilder.append(char)", "StringBuilder.append(java.lang.String)",
        "StringBuilder.append(int)", "StringBuilder.charAt(int)", "StringBuilder.setCharAt(int,char)",
        "StringBuilder.setLength(int)", "StringBuilder.deleteCharAt(int)", "StringBuilder.reverse()",
        "StringBuilder.length()", "StringBuilder.toString()", "ArrayList.<init>()", "ArrayList.add(E)",
        "ArrayList.add(int,E)", "ArrayList.get(int)", "ArrayList.set(int,E)", "ArrayList.remove(int)", "ArrayList.size()",
        "ArrayList.isEmpty()", "ArrayList.clear()", "List.add(E)", "List.add(int,E)", "List.get(int)", "List.set(int,E)",
        "List.remove(int)", "List.size()", "List.isEmpty()", "List.clear()",
        "System.arraycopy(java.lang.Object,int,java.lang.Object,int,int)", "Object.<init>()");
    private static final Set<String> NUMBER_FUNCTIONS = Set.of("Integer", "Long", "Math");
    private static final Set<String> ROW_FUNCTIONS = Set.of("copyOf", "copyOfRange", "fill");
    private static final Set<String> SHAPES = Set.of("Iterator", "Iterable", "Comparable");
    private static final Set<TypeKind> WHOLE_NUMBERS = Set.of(TypeKind.INT, TypeKind.LONG);
    private static final Set<TypeKind> NUMBERS = Set.of(TypeKind.INT, TypeKind.LONG, TypeKind.SHORT, TypeKind.BYTE,
        TypeKind.DOUBLE, TypeKind.FLOAT);
    private static final Set<TypeKind> ROW_CONSTANTS = Set.of(TypeKind.INT, TypeKind.LONG, TypeKind.CHAR, TypeKind.BYTE);

    private final Trees trees;
    private final CompilationUnitTree unit;
    private final List<String> broken = new ArrayList<>();
    private final Map<Element, Set<Element>> calls = new HashMap<>();
    private final Set<String> publicNames = new HashSet<>();
    private int classes;

    private Rules(Trees trees, CompilationUnitTree unit) {
        this.trees = trees;
        this.unit = unit;
    }

    /** What is broken, each with its rule's number ahead; of what is no Java, that alone. */
    static List<String> broken(String source) throws Exception {
        JavaCompiler compiler = ToolProvider.getSystemJavaCompiler();
        DiagnosticCollector<JavaFileObject> told = new DiagnosticCollector<>();
        JavacTask task = (JavacTask) compiler.getTask(null, null, told, List.of("-proc:none"), null, List.of(Compiled.asFile(source)));
        CompilationUnitTree unit = task.parse().iterator().next();
        task.analyze();
        for (Diagnostic<? extends JavaFileObject> one : told.getDiagnostics()) {
            if (one.getKind() == Diagnostic.Kind.ERROR) {
                return List.of("no Java: " + one.getMessage(null));
            }
        }
        Rules rules = new Rules(Trees.instance(task), unit);
        rules.wholeFile();
        return rules.broken;
    }

    private void tell(int rule, String what, Tree where) {
        long line = unit.getLineMap().getLineNumber(startOf(where));
        broken.add(rule + ": " + what + " in line " + line);
    }

    private long startOf(Tree tree) {
        return Math.max(0, trees.getSourcePositions().getStartPosition(unit, tree));
    }

    private long linesOf(Tree tree) {
        long end = trees.getSourcePositions().getEndPosition(unit, tree);
        return unit.getLineMap().getLineNumber(end) - unit.getLineMap().getLineNumber(startOf(tree)) + 1;
    }

    private void require(boolean holds, int rule, String what, Tree where) {
        if (!holds) {
            tell(rule, what, where);
        }
    }

    private void wholeFile() {
        require(unit.getPackageName() == null, 1, "a package line", unit);
        require(unit.getTypeDecls().size() == 1, 1, "more than one class beside another", unit);
        new PublicNames().scan(unit, null);
        scan(unit, null);
        require(classes <= MOST_CLASSES, 11, classes + " classes", unit);
        depths();
    }

    private Element here() {
        return trees.getElement(getCurrentPath());
    }

    private TypeMirror typeOf(Tree tree) {
        return trees.getTypeMirror(new TreePath(getCurrentPath(), tree));
    }

    private static boolean isOwn(Element element) {
        Element outermost = element;
        while (outermost.getEnclosingElement() != null && outermost.getEnclosingElement().getKind() != ElementKind.PACKAGE) {
            outermost = outermost.getEnclosingElement();
        }
        return outermost.getSimpleName().contentEquals("Exactdoubles");
    }

    private boolean isInside(Tree.Kind... kinds) {
        for (TreePath path = getCurrentPath().getParentPath(); path != null; path = path.getParentPath()) {
            if (List.of(kinds).contains(path.getLeaf().getKind())) {
                return true;
            }
            if (path.getLeaf().getKind() == Tree.Kind.METHOD) {
                return false;
            }
        }
        return false;
    }

    private MethodTree method() {
        for (TreePath path = getCurrentPath(); path != null; path = path.getParentPath()) {
            if (path.getLeaf() instanceof MethodTree) {
                return (MethodTree) path.getLeaf();
            }
        }
        return null;
    }

    private static boolean isConstructor(MethodTree method) {
        return method != null && method.getReturnType() == null;
    }

    /** Rule 1 needs the public names before the first private one is looked at. */
    private final class PublicNames extends TreePathScanner<Void, Void> {
        @Override
        public Void visitMethod(MethodTree method, Void ignored) {
            if (method.getModifiers().getFlags().contains(Modifier.PUBLIC)) {
                publicNames.add(method.getName().toString());
            }
            return super.visitMethod(method, ignored);
        }
    }

    // ---- rules 1, 2 and 11: classes, fields, methods

    @Override
    public Void visitClass(ClassTree type, Void ignored) {
        classes++;
        Set<Modifier> flags = type.getModifiers().getFlags();
        Tree around = getCurrentPath().getParentPath().getLeaf();
        if (around instanceof CompilationUnitTree) {
            require(flags.equals(Set.of(Modifier.PUBLIC, Modifier.FINAL)), 1, "the class is " + flags, type);
        } else if (around instanceof ClassTree) {
            require(!flags.contains(Modifier.PUBLIC) && !flags.contains(Modifier.PROTECTED), 1, "a class inside is " + flags, type);
            require(here().getModifiers().contains(Modifier.STATIC), 1, "a class inside is not static", type);
        } else {
            require(type.getSimpleName().length() == 0, 2, "a local class", type);
        }
        kinships(type);
        int fields = 0;
        for (Tree member : type.getMembers()) {
            if (member instanceof VariableTree && !((VariableTree) member).getModifiers().getFlags().contains(Modifier.STATIC)) {
                fields++;
            }
            if (member instanceof BlockTree) {
                require(!((BlockTree) member).isStatic(), 5, "a static initialiser block", member);
            }
        }
        require(fields <= MOST_FIELDS, 11, fields + " fields", type);
        return super.visitClass(type, ignored);
    }

    private void kinships(ClassTree type) {
        if (type.getExtendsClause() != null) {
            TypeMirror above = typeOf(type.getExtendsClause());
            boolean isThrown = above.toString().endsWith("Exception") || above.toString().endsWith("Error");
            require(isOwnType(above), isThrown ? 6 : 2, "a class that extends " + above, type);
        }
        for (Tree one : type.getImplementsClause()) {
            TypeMirror above = typeOf(one);
            String name = ((DeclaredType) above).asElement().getSimpleName().toString();
            require(isOwnType(above) || SHAPES.contains(name), 4, "a class that implements " + above, type);
        }
    }

    @Override
    public Void visitMethod(MethodTree method, Void ignored) {
        Set<Modifier> flags = method.getModifiers().getFlags();
        String name = method.getName().toString();
        boolean isOutermost = here().getEnclosingElement().getEnclosingElement().getKind() == ElementKind.PACKAGE;
        if (isOutermost) {
            require(flags.contains(Modifier.PUBLIC) || flags.contains(Modifier.PRIVATE), 1, name + " can be seen", method);
        }
        require(!flags.contains(Modifier.PRIVATE) || !publicNames.contains(name) || isConstructor(method), 1,
            name + " is private and bears a public name", method);
        require(!Set.of("equals", "hashCode", "toString").contains(name), 6, name + " of one's own", method);
        require(!flags.contains(Modifier.SYNCHRONIZED), 6, "synchronized", method);
        require(method.getParameters().size() <= MOST_PARAMETERS, 11, name + " has too many parameters", method);
        require(linesOf(method) <= MOST_LINES, 11, name + " is too long", method);
        if (method.getReturnType() != null) {
            TypeMirror type = typeOf(method.getReturnType());
            require(type.getKind() == TypeKind.VOID || isAllowed(type), 3, "the type " + type, method);
        }
        calls.computeIfAbsent(here(), made -> new LinkedHashSet<>());
        HoldsBoth both = new HoldsBoth();
        both.scan(method, null);
        require(!both.holdsTry || !both.holdsThrow, 6, "throw and try in " + name, method);
        return super.visitMethod(method, ignored);
    }

    private static final class HoldsBoth extends TreeScanner<Void, Void> {
        private boolean holdsTry;
        private boolean holdsThrow;

        @Override
        public Void visitTry(TryTree tree, Void ignored) {
            holdsTry = true;
            return super.visitTry(tree, ignored);
        }

        @Override
        public Void visitThrow(ThrowTree tree, Void ignored) {
            holdsThrow = true;
            return super.visitThrow(tree, ignored);
        }
    }

    // ---- rules 3 and 5: types, what is static

    private boolean isAllowed(TypeMirror type) {
        if (type.getKind().isPrimitive() || type.getKind() == TypeKind.TYPEVAR) {
            return true;
        }
        if (type.getKind() == TypeKind.ARRAY) {
            TypeMirror part = ((ArrayType) type).getComponentType();
            if (part.getKind() == TypeKind.ARRAY) {
                return NUMBERS.contains(((ArrayType) part).getComponentType().getKind());
            }
            return part.getKind().isPrimitive() || isOwnType(part);
        }
        return isOwnType(type) || isText(type) || isList(type);
    }

    private static boolean isOwnType(TypeMirror type) {
        return type.getKind() == TypeKind.DECLARED && isOwn(((DeclaredType) type).asElement());
    }

    private static boolean isText(TypeMirror type) {
        return Set.of("java.lang.String", "java.lang.StringBuilder").contains(type.toString());
    }

    private static boolean isList(TypeMirror type) {
        if (type.getKind() != TypeKind.DECLARED) {
            return false;
        }
        DeclaredType declared = (DeclaredType) type;
        String name = declared.asElement().toString();
        if (!Set.of("java.util.ArrayList", "java.util.List").contains(name) || declared.getTypeArguments().size() != 1) {
            return false;
        }
        TypeMirror held = declared.getTypeArguments().get(0);
        return isOwnType(held) || held.toString().equals("java.lang.Integer");
    }

    @Override
    public Void visitVariable(VariableTree variable, Void ignored) {
        Element element = here();
        Tree around = getCurrentPath().getParentPath().getLeaf();
        if (!(around instanceof CatchTree)) {
            require(isAllowed(element.asType()), 3, "the type " + element.asType(), variable);
        }
        if (element.getKind() == ElementKind.FIELD) {
            field(variable, (VariableElement) element);
        }
        return super.visitVariable(variable, ignored);
    }

    private void field(VariableTree field, VariableElement element) {
        Set<Modifier> flags = element.getModifiers();
        boolean isOutermost = element.getEnclosingElement().getEnclosingElement().getKind() == ElementKind.PACKAGE;
        require(!isOutermost || flags.contains(Modifier.PRIVATE), 1, field.getName() + " can be seen", field);
        if (!flags.contains(Modifier.STATIC)) {
            return;
        }
        boolean isRow = element.asType().getKind() == TypeKind.ARRAY
            && ROW_CONSTANTS.contains(((ArrayType) element.asType()).getComponentType().getKind())
            && field.getInitializer() instanceof NewArrayTree
            && ((NewArrayTree) field.getInitializer()).getInitializers() != null;
        require(flags.contains(Modifier.FINAL), 5, field.getName() + " is static and not final", field);
        require(isRow || element.getConstantValue() != null, 5, field.getName() + " is static and no constant", field);
    }

    private void changed(ExpressionTree target) {
        if (target instanceof ArrayAccessTree) {
            Element row = trees.getElement(new TreePath(getCurrentPath(), ((ArrayAccessTree) target).getExpression()));
            boolean isStatic = row != null && row.getKind() == ElementKind.FIELD && row.getModifiers().contains(Modifier.STATIC);
            require(!isStatic, 5, row + " is changed", target);
        }
    }

    @Override
    public Void visitAssignment(AssignmentTree tree, Void ignored) {
        changed(tree.getVariable());
        require(!isSelf(tree.getExpression()), 12, "the object is handed out", tree);
        return super.visitAssignment(tree, ignored);
    }

    // ---- rules 7, 9 and 10: what is worked out, and loops

    private Object constantOf(ExpressionTree tree) {
        if (tree instanceof ParenthesizedTree) {
            return constantOf(((ParenthesizedTree) tree).getExpression());
        }
        if (tree instanceof LiteralTree) {
            return ((LiteralTree) tree).getValue();
        }
        Element element = trees.getElement(new TreePath(getCurrentPath(), tree));
        return element instanceof VariableElement ? ((VariableElement) element).getConstantValue() : null;
    }

    private void divides(Tree.Kind kind, ExpressionTree divisor, Tree where) {
        if (Set.of(Tree.Kind.DIVIDE, Tree.Kind.REMAINDER, Tree.Kind.DIVIDE_ASSIGNMENT, Tree.Kind.REMAINDER_ASSIGNMENT).contains(kind)) {
            Object constant = constantOf(divisor);
            require(constant instanceof Number && ((Number) constant).longValue() != 0, 7, "a divisor that may be 0", where);
        }
    }

    private static boolean isObject(TypeMirror type) {
        return type != null && Set.of("java.lang.String", "java.lang.Integer").contains(type.toString());
    }

    @Override
    public Void visitBinary(BinaryTree tree, Void ignored) {
        divides(tree.getKind(), tree.getRightOperand(), tree);
        boolean isText = isObject(trees.getTypeMirror(getCurrentPath()));
        require(tree.getKind() != Tree.Kind.PLUS || !isText, 10, "texts joined by +", tree);
        if (tree.getKind() == Tree.Kind.EQUAL_TO || tree.getKind() == Tree.Kind.NOT_EQUAL_TO) {
            boolean areObjects = isObject(typeOf(tree.getLeftOperand())) && isObject(typeOf(tree.getRightOperand()));
            require(!areObjects, 6, "which text it is", tree);
        }
        return super.visitBinary(tree, ignored);
    }

    @Override
    public Void visitCompoundAssignment(CompoundAssignmentTree tree, Void ignored) {
        changed(tree.getVariable());
        divides(tree.getKind(), tree.getExpression(), tree);
        require(!isObject(trees.getTypeMirror(getCurrentPath())), 10, "texts joined by +=", tree);
        return super.visitCompoundAssignment(tree, ignored);
    }

    @Override
    public Void visitUnary(UnaryTree tree, Void ignored) {
        if (tree.getKind() != Tree.Kind.UNARY_MINUS && tree.getKind() != Tree.Kind.BITWISE_COMPLEMENT) {
            changed(tree.getExpression());
        }
        return super.visitUnary(tree, ignored);
    }

    @Override
    public Void visitTypeCast(TypeCastTree tree, Void ignored) {
        require(typeOf(tree.getType()).getKind().isPrimitive(), 7, "a cast among objects", tree);
        return super.visitTypeCast(tree, ignored);
    }

    @Override
    public Void visitNewArray(NewArrayTree tree, Void ignored) {
        for (ExpressionTree length : tree.getDimensions()) {
            Object constant = constantOf(length);
            require(constant instanceof Integer && (Integer) constant >= 0, 7, "an array's length that may be below 0", tree);
        }
        require(isAllowed(trees.getTypeMirror(getCurrentPath())), 3, "an array of another type", tree);
        madeInLoop(tree);
        return super.visitNewArray(tree, ignored);
    }

    private void loops(ExpressionTree condition, Tree where) {
        require(condition != null && !(constantOf(condition) instanceof Boolean), 9, "a loop without an end", where);
    }

    @Override
    public Void visitWhileLoop(WhileLoopTree tree, Void ignored) {
        loops(tree.getCondition(), tree);
        return super.visitWhileLoop(tree, ignored);
    }

    @Override
    public Void visitDoWhileLoop(DoWhileLoopTree tree, Void ignored) {
        loops(tree.getCondition(), tree);
        return super.visitDoWhileLoop(tree, ignored);
    }

    @Override
    public Void visitForLoop(ForLoopTree tree, Void ignored) {
        loops(tree.getCondition(), tree);
        return super.visitForLoop(tree, ignored);
    }

    @Override
    public Void visitEnhancedForLoop(EnhancedForLoopTree tree, Void ignored) {
        require(typeOf(tree.getExpression()).getKind() == TypeKind.ARRAY, 12, "a list's iterator", tree);
        return super.visitEnhancedForLoop(tree, ignored);
    }

    // ---- rules 2 and 6: what is left out

    @Override
    public Void visitLambdaExpression(LambdaExpressionTree tree, Void ignored) {
        tell(2, "a lambda", tree);
        return super.visitLambdaExpression(tree, ignored);
    }

    @Override
    public Void visitMemberReference(MemberReferenceTree tree, Void ignored) {
        tell(2, "a method reference", tree);
        return super.visitMemberReference(tree, ignored);
    }

    @Override
    public Void visitSynchronized(SynchronizedTree tree, Void ignored) {
        tell(6, "synchronized", tree);
        return super.visitSynchronized(tree, ignored);
    }

    @Override
    public Void visitAssert(AssertTree tree, Void ignored) {
        tell(6, "assert", tree);
        return super.visitAssert(tree, ignored);
    }

    @Override
    public Void visitTry(TryTree tree, Void ignored) {
        require(tree.getFinallyBlock() == null, 6, "finally", tree);
        require(tree.getResources().isEmpty(), 6, "try with resources", tree);
        return super.visitTry(tree, ignored);
    }

    @Override
    public Void visitCatch(CatchTree tree, Void ignored) {
        Tree type = tree.getParameter().getType();
        List<? extends Tree> caught = type instanceof UnionTypeTree ? ((UnionTypeTree) type).getTypeAlternatives() : List.of(type);
        for (Tree one : caught) {
            require(EXCEPTIONS.contains(one.toString()), 6, "catch of " + one, tree);
        }
        return super.visitCatch(tree, ignored);
    }

    @Override
    public Void visitThrow(ThrowTree tree, Void ignored) {
        require(!isConstructor(method()), 6, "throw in a constructor", tree);
        ExpressionTree thrown = tree.getExpression();
        if (!(thrown instanceof NewClassTree)) {
            tell(6, "throw of what is not new", tree);
            return super.visitThrow(tree, ignored);
        }
        NewClassTree made = (NewClassTree) thrown;
        require(EXCEPTIONS.contains(made.getIdentifier().toString()), 6, "throw of " + made.getIdentifier(), tree);
        boolean isWritten = made.getArguments().isEmpty()
            || made.getArguments().size() == 1 && made.getArguments().get(0) instanceof LiteralTree;
        require(isWritten, 6, "an exception whose text is not written", tree);
        return super.visitThrow(tree, ignored);
    }

    @Override
    public Void visitIdentifier(IdentifierTree tree, Void ignored) {
        Element element = here();
        boolean isCaught = element != null && element.getKind() == ElementKind.EXCEPTION_PARAMETER;
        require(!isCaught, 6, "an exception that is used", tree);
        return super.visitIdentifier(tree, ignored);
    }

    @Override
    public Void visitMemberSelect(MemberSelectTree tree, Void ignored) {
        Element element = here();
        boolean isField = element != null && element.getKind() == ElementKind.FIELD;
        boolean isRowLength = isField && typeOf(tree.getExpression()).getKind() == TypeKind.ARRAY;
        require(!isField || isRowLength || isOwn(element), 4, "the library's constant " + tree, tree);
        return super.visitMemberSelect(tree, ignored);
    }

    @Override
    public Void visitSwitch(SwitchTree tree, Void ignored) {
        TypeMirror type = typeOf(tree.getExpression());
        boolean isEnum = isOwnType(type) && ((DeclaredType) type).asElement().getKind() == ElementKind.ENUM;
        require(type.getKind().isPrimitive() || isEnum, 10, "a switch on " + type, tree);
        return super.visitSwitch(tree, ignored);
    }

    @Override
    public Void visitLiteral(LiteralTree tree, Void ignored) {
        Object value = tree.getValue();
        boolean isPlain = !(value instanceof String || value instanceof Character)
            || value.toString().chars().allMatch(sign -> sign >= 1 && sign <= LAST_SIGN);
        require(isPlain, 4, "a sign that is not 1 to 127", tree);
        return super.visitLiteral(tree, ignored);
    }

    // ---- rules 4, 12 and 13: calls, objects that are made, the library

    private static boolean isSelf(ExpressionTree tree) {
        return tree instanceof IdentifierTree && ((IdentifierTree) tree).getName().contentEquals("this");
    }

    private void madeInLoop(Tree tree) {
        boolean isInLoop = isInside(Tree.Kind.FOR_LOOP, Tree.Kind.WHILE_LOOP, Tree.Kind.DO_WHILE_LOOP, Tree.Kind.ENHANCED_FOR_LOOP);
        require(!isInLoop, 12, "an object made in a loop", tree);
    }

    private void called(ExecutableElement element, TypeMirror receiver, Tree where) {
        MethodTree around = method();
        if (around != null) {
            Element caller = trees.getElement(trees.getPath(unit, around));
            calls.computeIfAbsent(caller, made -> new LinkedHashSet<>()).add(element);
        }
        if (!isOwn(element)) {
            library(element, receiver, where);
        }
    }

    private void library(ExecutableElement element, TypeMirror receiver, Tree where) {
        if (element.getSimpleName().contentEquals("clone") && receiver != null && receiver.getKind() == TypeKind.ARRAY) {
            return;
        }
        TypeElement owner = (TypeElement) element.getEnclosingElement();
        String name = element.getSimpleName().toString();
        // The compiler knows some of StringBuilder's methods by the class that it extends.
        String type = owner.getSimpleName().toString().replace("AbstractStringBuilder", "StringBuilder");
        String told = type + "." + element;
        if (name.equals("<init>")) {
            told = type + "." + element.toString().replaceFirst("^[^(]*", "<init>");
        }
        String home = owner.getEnclosingElement().toString();
        boolean isOutside = !Set.of("java.lang", "java.util").contains(home)
            || Set.of("Thread", "Runtime", "ProcessBuilder", "Random", "UUID", "Scanner", "Timer").contains(type)
            || type.equals("System") && !name.equals("arraycopy");
        require(!isOutside, 13, told, where);
        // Which ones, visitThrow tells.
        boolean isException = name.equals("<init>") && type.endsWith("Exception");
        boolean isAllowed = isException || LIBRARY.contains(told) || isNumberFunction(type, name, element)
            || isRowFunction(type, name, element) || told.startsWith("List.of(") && !told.contains("...");
        require(isOutside || isAllowed, 4, told, where);
    }

    private static boolean isNumberFunction(String type, String name, ExecutableElement element) {
        boolean isOverNumbers = WHOLE_NUMBERS.contains(element.getReturnType().getKind());
        for (VariableElement parameter : element.getParameters()) {
            isOverNumbers &= WHOLE_NUMBERS.contains(parameter.asType().getKind());
        }
        return NUMBER_FUNCTIONS.contains(type) && element.getModifiers().contains(Modifier.STATIC) && isOverNumbers
            && !name.endsWith("Exact");
    }

    private static boolean isRowFunction(String type, String name, ExecutableElement element) {
        return type.equals("Arrays") && ROW_FUNCTIONS.contains(name)
            && element.getParameters().get(0).asType().getKind() == TypeKind.ARRAY
            && NUMBERS.contains(((ArrayType) element.getParameters().get(0).asType()).getComponentType().getKind());
    }

    @Override
    public Void visitMethodInvocation(MethodInvocationTree tree, Void ignored) {
        ExecutableElement element = (ExecutableElement) trees.getElement(getCurrentPath());
        ExpressionTree select = tree.getMethodSelect();
        TypeMirror receiver = select instanceof MemberSelectTree
            ? trees.getTypeMirror(new TreePath(new TreePath(getCurrentPath(), select), ((MemberSelectTree) select).getExpression()))
            : null;
        called(element, receiver, tree);
        Set<Modifier> flags = element.getModifiers();
        boolean isFixed = flags.contains(Modifier.PRIVATE) || flags.contains(Modifier.STATIC)
            || element.getEnclosingElement().getModifiers().contains(Modifier.FINAL) || element.getKind() == ElementKind.CONSTRUCTOR;
        require(!isConstructor(method()) || isFixed, 12, "a constructor calls what could be overridden", tree);
        for (ExpressionTree argument : tree.getArguments()) {
            require(!isSelf(argument), 12, "the object is handed out", tree);
        }
        return super.visitMethodInvocation(tree, ignored);
    }

    @Override
    public Void visitNewClass(NewClassTree tree, Void ignored) {
        called((ExecutableElement) trees.getElement(getCurrentPath()), null, tree);
        madeInLoop(tree);
        for (ExpressionTree argument : tree.getArguments()) {
            require(!isSelf(argument), 12, "the object is handed out", tree);
        }
        return super.visitNewClass(tree, ignored);
    }

    // ---- rules 8 and 11: how deep calls go

    private void depths() {
        for (Element method : calls.keySet()) {
            List<Element> way = deepest(method, new ArrayList<>());
            if (way == null) {
                broken.add("8: recursion from " + method);
            } else if (method.getModifiers().contains(Modifier.PUBLIC) && way.size() > MOST_DEPTH) {
                broken.add("11: calls too deep: " + way);
            }
        }
    }

    /** The longest way of calls from this one, with it; null, if it comes back to one that stands open. */
    private List<Element> deepest(Element method, List<Element> open) {
        if (open.contains(method)) {
            return null;
        }
        open.add(method);
        List<Element> longest = new ArrayList<>();
        for (Element next : calls.getOrDefault(method, Set.of())) {
            List<Element> way = isOwn(next) ? deepest(next, open) : List.of();
            if (way == null) {
                return null;
            }
            longest = way.size() > longest.size() ? way : longest;
        }
        open.remove(method);
        List<Element> whole = new ArrayList<>(List.of(method));
        whole.addAll(longest);
        return whole;
    }

    /** The numbers of the rules that these tell of. */
    static Set<Integer> numbers(List<String> broken) {
        Set<Integer> numbers = new TreeSet<>();
        for (String one : broken) {
            numbers.add(one.startsWith("no Java") ? 0 : Integer.parseInt(one.substring(0, one.indexOf(':'))));
        }
        return numbers;
    }
}
