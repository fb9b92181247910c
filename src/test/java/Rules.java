import com.sun.source.tree.AnnotationTree;
import com.sun.source.tree.ArrayAccessTree;
import com.sun.source.tree.AssertTree;
import com.sun.source.tree.AssignmentTree;
import com.sun.source.tree.BinaryTree;
import com.sun.source.tree.BlockTree;
import com.sun.source.tree.ClassTree;
import com.sun.source.tree.CompilationUnitTree;
import com.sun.source.tree.CompoundAssignmentTree;
import com.sun.source.tree.DoWhileLoopTree;
import com.sun.source.tree.ExpressionStatementTree;
import com.sun.source.tree.ExpressionTree;
import com.sun.source.tree.ForLoopTree;
import com.sun.source.tree.IdentifierTree;
import com.sun.source.tree.ImportTree;
import com.sun.source.tree.LambdaExpressionTree;
import com.sun.source.tree.LineMap;
import com.sun.source.tree.LiteralTree;
import com.sun.source.tree.MemberReferenceTree;
import com.sun.source.tree.MemberSelectTree;
import com.sun.source.tree.MethodInvocationTree;
import com.sun.source.tree.MethodTree;
import com.sun.source.tree.NewArrayTree;
import com.sun.source.tree.NewClassTree;
import com.sun.source.tree.ParenthesizedTree;
import com.sun.source.tree.StatementTree;
import com.sun.source.tree.SwitchTree;
import com.sun.source.tree.SynchronizedTree;
import com.sun.source.tree.ThrowTree;
import com.sun.source.tree.Tree;
import com.sun.source.tree.TryTree;
import com.sun.source.tree.TypeCastTree;
import com.sun.source.tree.UnaryTree;
import com.sun.source.tree.VariableTree;
import com.sun.source.tree.WhileLoopTree;
import com.sun.source.util.JavacTask;
import com.sun.source.util.TreePath;
import com.sun.source.util.TreePathScanner;
import com.sun.source.util.TreeScanner;
import com.sun.source.util.Trees;
import java.io.IOException;
import java.net.URI;
import java.util.ArrayList;
import java.util.HashSet;
import java.util.List;
import java.util.Set;
import javax.lang.model.element.Element;
import javax.lang.model.element.ElementKind;
import javax.lang.model.element.ExecutableElement;
import javax.lang.model.element.Modifier;
import javax.lang.model.element.TypeElement;
import javax.lang.model.element.VariableElement;
import javax.lang.model.type.ArrayType;
import javax.lang.model.type.DeclaredType;
import javax.lang.model.type.TypeKind;
import javax.lang.model.type.TypeMirror;
import javax.tools.DiagnosticCollector;
import javax.tools.JavaCompiler;
import javax.tools.JavaFileObject;
import javax.tools.SimpleJavaFileObject;
import javax.tools.ToolProvider;

/**
 * Reads a source as the compiler does and tells where it breaks a rule of LANGUAGE.md. Where a rule allows something
 * only behind a test that a machine can't judge (a cast among classes, a while), and the class needs none, none is
 * allowed at all.
 */
final class Rules extends TreePathScanner<Void, Void> {
    private static final int MOST_CLASSES = 12, MOST_FIELDS = 20, MOST_PARAMETERS = 7, MOST_LINES = 60, MOST_DEEP = 8;
    private static final Set<String> IMPORTS = Set.of(
        "java.util.Arrays", "java.util.ArrayList", "java.util.List", "java.util.Iterator");
    private static final Set<String> TYPES = Set.of(
        "java.lang.String", "java.lang.StringBuilder", "java.lang.Integer", "java.util.ArrayList", "java.util.List",
        "java.util.Iterator", "java.lang.Iterable", "java.lang.Comparable");
    /** What may be called of the library: the class and the method, with its parameters where they matter. */
    private static final Set<String> CALLS = Set.of(
        "String.length", "String.charAt", "String.isEmpty", "String.equals", "String.substring", "String.toCharArray",
        "String.indexOf(int)", "String.<init>(char[])",
        "StringBuilder.<init>()", "StringBuilder.append(char)", "StringBuilder.append(java.lang.String)",
        "StringBuilder.append(int)", "StringBuilder.charAt", "AbstractStringBuilder.charAt", "StringBuilder.setCharAt",
        "AbstractStringBuilder.setCharAt", "StringBuilder.setLength", "AbstractStringBuilder.setLength",
        "StringBuilder.deleteCharAt", "StringBuilder.reverse", "StringBuilder.length", "AbstractStringBuilder.length",
        "StringBuilder.toString",
        "ArrayList.<init>()", "ArrayList.add", "ArrayList.get", "ArrayList.set", "ArrayList.remove(int)",
        "ArrayList.size", "ArrayList.isEmpty", "ArrayList.clear",
        "List.add", "List.get", "List.set", "List.remove(int)", "List.size", "List.isEmpty", "List.clear", "List.of",
        "Integer.compare", "Integer.max", "Integer.min", "Integer.bitCount", "Long.compare", "Long.max", "Long.min",
        "Long.bitCount", "Math.max", "Math.min", "Math.abs", "Math.floorDiv", "Math.floorMod",
        "System.arraycopy", "Arrays.copyOf", "Arrays.copyOfRange", "Arrays.fill", "Object.<init>()", "Object.clone()");
    private static final Set<String> NOT_OWN = Set.of("equals", "hashCode", "toString");

    private final Trees trees;
    private final CompilationUnitTree unit;
    private final LineMap lines;
    private final String name;
    private final List<String> broken = new ArrayList<>();
    private final Calls calls = new Calls();
    private int classes;

    private Rules(Trees trees, CompilationUnitTree unit, String name) {
        this.trees = trees;
        this.unit = unit;
        this.lines = unit.getLineMap();
        this.name = name;
    }

    /** Each rule that the source of a class breaks: its number, the line, and what is wrong there. */
    static List<String> brokenIn(String name, String source) throws IOException {
        JavaCompiler compiler = ToolProvider.getSystemJavaCompiler();
        DiagnosticCollector<JavaFileObject> said = new DiagnosticCollector<>();
        JavaFileObject file = new SimpleJavaFileObject(URI.create("string:///" + name + ".java"), JavaFileObject.Kind.SOURCE) {
            @Override
            public CharSequence getCharContent(boolean ignored) {
                return source;
            }
        };
        JavacTask task = (JavacTask) compiler.getTask(null, null, said, List.of("-proc:none"), null, List.of(file));
        CompilationUnitTree unit = task.parse().iterator().next();
        task.analyze();
        Rules rules = new Rules(Trees.instance(task), unit, name);
        said.getDiagnostics().stream().filter(d -> d.getKind() == javax.tools.Diagnostic.Kind.ERROR)
            .forEach(d -> rules.broken.add("0: it can't be compiled: " + d));
        if (rules.broken.isEmpty()) {
            rules.look(source);
        }
        return rules.broken;
    }

    private void look(String source) {
        scan(new TreePath(unit), null);
        if (!source.chars().allMatch(b -> b == '\n' || b >= 32 && b < 127)) {
            broken.add("3: a sign that is not plain");
        }
        if (unit.getPackageName() != null) {
            broken.add("0: a package line");
        }
        if (unit.getTypeDecls().size() != 1) {
            broken.add("1: " + unit.getTypeDecls().size() + " classes side by side");
        }
        if (classes > MOST_CLASSES) {
            broken.add("11: " + classes + " classes");
        }
        calls.walk();
        calls.circles().forEach(m -> broken.add("8: " + m + " calls itself"));
        if (calls.deepest() > MOST_DEEP) {
            broken.add("11: calls go " + calls.deepest() + " deep: " + calls.deepestChain());
        }
    }

    private void tell(int rule, Tree where, String what) {
        long line = lines.getLineNumber(trees.getSourcePositions().getStartPosition(unit, where));
        broken.add(rule + ": line " + line + ": " + what);
    }

    private void need(boolean is, int rule, Tree where, String what) {
        if (!is) {
            tell(rule, where, what);
        }
    }

    // ---- what things are

    private Element element(Tree tree) {
        return trees.getElement(new TreePath(getCurrentPath(), tree));
    }

    private TypeMirror type(Tree tree) {
        return trees.getTypeMirror(new TreePath(getCurrentPath(), tree));
    }

    private Element currentElement() {
        return trees.getElement(getCurrentPath());
    }

    private boolean isOwn(Element e) {
        Element at = e;
        while (at != null && at.getKind() != ElementKind.PACKAGE) {
            if (at.getEnclosingElement() != null && at.getEnclosingElement().getKind() == ElementKind.PACKAGE) {
                return at.getSimpleName().contentEquals(name);
            }
            at = at.getEnclosingElement();
        }
        return false;
    }

    private static boolean isNamed(TypeMirror t, String fullName) {
        return t != null && t.getKind() == TypeKind.DECLARED
            && ((TypeElement) ((DeclaredType) t).asElement()).getQualifiedName().contentEquals(fullName);
    }

    private static boolean isText(TypeMirror t) {
        return isNamed(t, "java.lang.String");
    }

    private boolean mayStand(TypeMirror t) {
        if (t.getKind() == TypeKind.ARRAY) {
            TypeMirror part = ((ArrayType) t).getComponentType();
            if (part.getKind() == TypeKind.ARRAY) {
                TypeMirror number = ((ArrayType) part).getComponentType();
                return number.getKind().isPrimitive() && mayStand(number);
            }
            return part.getKind().isPrimitive() && mayStand(part) || part.getKind() == TypeKind.DECLARED && isOwn(elementOf(part));
        }
        if (t.getKind() == TypeKind.DECLARED) {
            boolean parts = ((DeclaredType) t).getTypeArguments().stream()
                .allMatch(a -> isNamed(a, "java.lang.Integer") || a.getKind() == TypeKind.TYPEVAR || isOwn(elementOf(a)));
            return parts && (isOwn(elementOf(t)) || TYPES.stream().anyMatch(known -> isNamed(t, known)));
        }
        // Doubles and floats are allowed where none is NaN, which can't be seen here.
        boolean broken = t.getKind() == TypeKind.DOUBLE || t.getKind() == TypeKind.FLOAT;
        return t.getKind().isPrimitive() && !broken || t.getKind() == TypeKind.VOID || t.getKind() == TypeKind.TYPEVAR;
    }

    private static Element elementOf(TypeMirror t) {
        return t.getKind() == TypeKind.DECLARED ? ((DeclaredType) t).asElement() : null;
    }

    // ---- classes and members

    @Override
    public Void visitImport(ImportTree tree, Void v) {
        need(!tree.isStatic() && IMPORTS.contains(tree.getQualifiedIdentifier().toString()), 4, tree, tree.toString().trim());
        return null;
    }

    @Override
    public Void visitClass(ClassTree tree, Void v) {
        classes++;
        Set<Modifier> is = tree.getModifiers().getFlags();
        Tree around = getCurrentPath().getParentPath().getLeaf();
        boolean isTop = around == unit;
        if (isTop) {
            need(is.contains(Modifier.PUBLIC) && is.contains(Modifier.FINAL), 1, tree, "the class is not public and final");
        } else {
            boolean isMember = around instanceof ClassTree;
            boolean isStatic = isMember && currentElement().getModifiers().contains(Modifier.STATIC);
            need(isStatic, 2, tree, tree.getSimpleName() + " is not static, or is no member");
            need(!is.contains(Modifier.PUBLIC) && !is.contains(Modifier.PROTECTED), 1, tree, tree.getSimpleName() + " is seen outside");
        }
        lookAtMembers(tree, isTop);
        calls.add((TypeElement) currentElement());
        return super.visitClass(tree, v);
    }

    private void lookAtMembers(ClassTree tree, boolean isTop) {
        Set<String> faces = new HashSet<>();
        Set<String> hidden = new HashSet<>();
        int fields = 0;
        for (Tree member : tree.getMembers()) {
            if (member instanceof VariableTree) {
                fields += ((VariableTree) member).getModifiers().getFlags().contains(Modifier.STATIC) ? 0 : 1;
            } else if (member instanceof MethodTree) {
                MethodTree m = (MethodTree) member;
                boolean isPublic = m.getModifiers().getFlags().contains(Modifier.PUBLIC);
                (isPublic ? faces : hidden).add(m.getName().toString());
            }
        }
        need(fields <= MOST_FIELDS, 11, tree, tree.getSimpleName() + " has " + fields + " fields");
        hidden.retainAll(faces);
        need(!isTop || hidden.isEmpty(), 1, tree, "hidden methods bear public names: " + hidden);
    }

    @Override
    public Void visitMethod(MethodTree tree, Void v) {
        ExecutableElement method = (ExecutableElement) currentElement();
        boolean isTop = method.getEnclosingElement().getEnclosingElement().getKind() == ElementKind.PACKAGE;
        Set<Modifier> is = tree.getModifiers().getFlags();
        need(!isTop || is.contains(Modifier.PUBLIC) || is.contains(Modifier.PRIVATE), 1, tree, method + " is seen in the package");
        need(tree.getParameters().size() <= MOST_PARAMETERS, 11, tree, method + " takes too many parameters");
        need(tree.getThrows().isEmpty(), 6, tree, method + " throws");
        need(!is.contains(Modifier.SYNCHRONIZED), 6, tree, method + " is synchronized");
        need(!NOT_OWN.contains(tree.getName().toString()), 6, tree, method + " of an own class");
        need(method.getKind() == ElementKind.CONSTRUCTOR || mayStand(method.getReturnType()), 3, tree, method + " answers " + method.getReturnType());
        long first = lines.getLineNumber(trees.getSourcePositions().getStartPosition(unit, tree));
        long last = lines.getLineNumber(Math.max(0, trees.getSourcePositions().getEndPosition(unit, tree)));
        need(last - first < MOST_LINES, 11, tree, method + " is long");
        return super.visitMethod(tree, v);
    }

    @Override
    public Void visitVariable(VariableTree tree, Void v) {
        VariableElement variable = (VariableElement) currentElement();
        Set<Modifier> is = variable.getModifiers();
        boolean isField = variable.getKind() == ElementKind.FIELD;
        need(mayStand(variable.asType()), 3, tree, variable + " is of " + variable.asType());
        if (isField && is.contains(Modifier.STATIC)) {
            need(is.contains(Modifier.FINAL) && isConstant(tree, variable), 5, tree, variable + " is no constant");
        }
        boolean isTop = isField && variable.getEnclosingElement().getSimpleName().contentEquals(name);
        need(!isTop || is.contains(Modifier.PRIVATE) || is.contains(Modifier.PUBLIC) && is.contains(Modifier.STATIC),
            1, tree, variable + " is seen outside");
        return super.visitVariable(tree, v);
    }

    private static boolean isConstant(VariableTree tree, VariableElement variable) {
        if (variable.getConstantValue() != null) {
            return variable.asType().getKind() != TypeKind.DOUBLE && variable.asType().getKind() != TypeKind.FLOAT;
        }
        boolean writtenOut = tree.getInitializer() instanceof NewArrayTree
            && ((NewArrayTree) tree.getInitializer()).getInitializers() != null;
        return writtenOut && Set.of("int[]", "long[]", "char[]", "byte[]").contains(variable.asType().toString());
    }

    @Override
    public Void visitBlock(BlockTree tree, Void v) {
        boolean inClass = getCurrentPath().getParentPath().getLeaf() instanceof ClassTree;
        need(!inClass || !tree.isStatic(), 5, tree, "a static initialiser");
        return super.visitBlock(tree, v);
    }

    // ---- what never stands

    @Override
    public Void visitLambdaExpression(LambdaExpressionTree tree, Void v) {
        tell(2, tree, "a lambda");
        return super.visitLambdaExpression(tree, v);
    }

    @Override
    public Void visitMemberReference(MemberReferenceTree tree, Void v) {
        tell(2, tree, "a method reference");
        return super.visitMemberReference(tree, v);
    }

    @Override
    public Void visitThrow(ThrowTree tree, Void v) {
        tell(6, tree, "throw");
        return super.visitThrow(tree, v);
    }

    @Override
    public Void visitTry(TryTree tree, Void v) {
        tell(6, tree, "try");
        return super.visitTry(tree, v);
    }

    @Override
    public Void visitSynchronized(SynchronizedTree tree, Void v) {
        tell(6, tree, "synchronized");
        return super.visitSynchronized(tree, v);
    }

    @Override
    public Void visitAssert(AssertTree tree, Void v) {
        tell(6, tree, "assert");
        return super.visitAssert(tree, v);
    }

    @Override
    public Void visitAnnotation(AnnotationTree tree, Void v) {
        tell(4, tree, tree.toString());
        return super.visitAnnotation(tree, v);
    }

    @Override
    public Void visitTypeCast(TypeCastTree tree, Void v) {
        need(type(tree.getType()).getKind().isPrimitive(), 6, tree, tree + ": a cast among classes");
        return super.visitTypeCast(tree, v);
    }

    @Override
    public Void visitSwitch(SwitchTree tree, Void v) {
        TypeMirror of = type(stripped(tree.getExpression()));
        need(!isText(of), 10, tree, "a switch on texts");
        return super.visitSwitch(tree, v);
    }

    @Override
    public Void visitLiteral(LiteralTree tree, Void v) {
        if (tree.getValue() instanceof String) {
            need(((String) tree.getValue()).chars().allMatch(b -> b >= 1 && b <= 127), 4, tree, "a sign outside 1 to 127");
        }
        return super.visitLiteral(tree, v);
    }

    // ---- operators

    @Override
    public Void visitBinary(BinaryTree tree, Void v) {
        TypeMirror left = type(tree.getLeftOperand());
        TypeMirror right = type(tree.getRightOperand());
        switch (tree.getKind()) {
            case EQUAL_TO:
            case NOT_EQUAL_TO:
                need(!(isText(left) && isText(right)), 6, tree, tree + ": of texts");
                need(!(isNamed(left, "java.lang.Integer") && isNamed(right, "java.lang.Integer")), 6, tree, tree + ": of Integers");
                break;
            case PLUS:
                need(!isText(left) && !isText(right), 10, tree, tree + ": texts joined by +");
                break;
            case DIVIDE:
            case REMAINDER:
                needLookedAt(tree, tree.getRightOperand());
                break;
            default:
                break;
        }
        return super.visitBinary(tree, v);
    }

    @Override
    public Void visitCompoundAssignment(CompoundAssignmentTree tree, Void v) {
        need(!isText(type(tree.getVariable())), 10, tree, tree + ": texts joined by +");
        if (tree.getKind() == Tree.Kind.DIVIDE_ASSIGNMENT || tree.getKind() == Tree.Kind.REMAINDER_ASSIGNMENT) {
            needLookedAt(tree, tree.getExpression());
        }
        needNoConstant(tree.getVariable());
        return super.visitCompoundAssignment(tree, v);
    }

    @Override
    public Void visitAssignment(AssignmentTree tree, Void v) {
        needNoConstant(tree.getVariable());
        return super.visitAssignment(tree, v);
    }

    @Override
    public Void visitUnary(UnaryTree tree, Void v) {
        needNoConstant(tree.getExpression());
        return super.visitUnary(tree, v);
    }

    /** Neither a static array nor what stands in it is ever changed. */
    private void needNoConstant(ExpressionTree changed) {
        Tree kind = getCurrentPath().getLeaf();
        boolean isSign = kind.getKind() == Tree.Kind.UNARY_MINUS || kind.getKind() == Tree.Kind.UNARY_PLUS
            || kind.getKind() == Tree.Kind.LOGICAL_COMPLEMENT || kind.getKind() == Tree.Kind.BITWISE_COMPLEMENT;
        if (!isSign && changed instanceof ArrayAccessTree) {
            Element array = element(((ArrayAccessTree) changed).getExpression());
            need(array == null || !array.getModifiers().contains(Modifier.STATIC), 5, changed, changed + " is changed");
        }
    }

    /** A divisor is a number that isn't 0, or is compared with 0 in the same method. */
    private void needLookedAt(Tree where, ExpressionTree divisor) {
        ExpressionTree by = stripped(divisor);
        Object number = constantOf(by);
        if (number instanceof Number) {
            need(((Number) number).longValue() != 0, 7, where, where + ": parted by 0");
            return;
        }
        TreePath at = getCurrentPath();
        while (at != null && !(at.getLeaf() instanceof MethodTree)) {
            at = at.getParentPath();
        }
        boolean[] found = {false};
        new TreeScanner<Void, Void>() {
            @Override
            public Void visitBinary(BinaryTree tree, Void v) {
                boolean compares = tree.getKind() == Tree.Kind.EQUAL_TO || tree.getKind() == Tree.Kind.NOT_EQUAL_TO;
                boolean withZero = tree.getRightOperand().toString().equals("0");
                found[0] |= compares && withZero && tree.getLeftOperand().toString().equals(by.toString());
                return super.visitBinary(tree, v);
            }
        }.scan(at == null ? where : at.getLeaf(), null);
        need(found[0], 7, where, where + ": nobody looks whether " + by + " is 0");
    }

    private Object constantOf(ExpressionTree tree) {
        if (tree instanceof LiteralTree) {
            return ((LiteralTree) tree).getValue();
        }
        Element e = element(tree);
        return e instanceof VariableElement ? ((VariableElement) e).getConstantValue() : null;
    }

    private static ExpressionTree stripped(ExpressionTree tree) {
        ExpressionTree at = tree;
        while (at instanceof ParenthesizedTree) {
            at = ((ParenthesizedTree) at).getExpression();
        }
        return at;
    }

    // ---- the library

    @Override
    public Void visitMethodInvocation(MethodInvocationTree tree, Void v) {
        ExecutableElement called = (ExecutableElement) element(tree.getMethodSelect());
        if (isOwn(called)) {
            String text = tree.getMethodSelect().toString();
            boolean bare = tree.getMethodSelect() instanceof IdentifierTree;
            boolean isSuper = text.startsWith("super.") || text.equals("super");
            TypeMirror of = bare || isSuper ? null : type(((MemberSelectTree) tree.getMethodSelect()).getExpression());
            calls.add(caller(), called, isSuper, text.startsWith("this.") ? null : of);
            need(!inConstructor() || mayBeCalledByConstructor(called), 12, tree, "a constructor calls " + called);
        } else {
            needKnown(tree, called);
        }
        return super.visitMethodInvocation(tree, v);
    }

    private boolean inConstructor() {
        ExecutableElement in = caller();
        return in != null && in.getKind() == ElementKind.CONSTRUCTOR;
    }

    private static boolean mayBeCalledByConstructor(ExecutableElement called) {
        Set<Modifier> is = called.getModifiers();
        boolean fixed = called.getEnclosingElement().getModifiers().contains(Modifier.FINAL);
        return called.getKind() == ElementKind.CONSTRUCTOR || fixed || is.contains(Modifier.STATIC)
            || is.contains(Modifier.PRIVATE) || is.contains(Modifier.FINAL);
    }

    private ExecutableElement caller() {
        TreePath at = getCurrentPath();
        while (at != null && !(at.getLeaf() instanceof MethodTree)) {
            at = at.getParentPath();
        }
        return at == null ? null : (ExecutableElement) trees.getElement(at);
    }

    @Override
    public Void visitNewClass(NewClassTree tree, Void v) {
        need(tree.getClassBody() == null, 2, tree, "a class without a name");
        ExecutableElement made = (ExecutableElement) currentElement();
        if (isOwn(made)) {
            calls.add(caller(), made, false, null);
        } else {
            needKnown(tree, made);
        }
        return super.visitNewClass(tree, v);
    }

    private void needKnown(Tree where, ExecutableElement called) {
        String plain = called.getEnclosingElement().getSimpleName() + "." + called.getSimpleName();
        StringBuilder full = new StringBuilder(plain).append('(');
        for (VariableElement p : called.getParameters()) {
            full.append(full.charAt(full.length() - 1) == '(' ? "" : ",").append(p.asType());
        }
        need(CALLS.contains(plain) || CALLS.contains(full.append(')').toString()), 4, where, full + " is called");
    }

    @Override
    public Void visitMemberSelect(MemberSelectTree tree, Void v) {
        needOwnField(tree, currentElement());
        return super.visitMemberSelect(tree, v);
    }

    @Override
    public Void visitIdentifier(IdentifierTree tree, Void v) {
        needOwnField(tree, currentElement());
        return super.visitIdentifier(tree, v);
    }

    private void needOwnField(Tree tree, Element e) {
        boolean isField = e != null && e.getKind() == ElementKind.FIELD;
        boolean isSelf = e != null && (e.getSimpleName().contentEquals("this") || e.getSimpleName().contentEquals("super"));
        boolean isLength = tree.toString().endsWith(".length");
        need(!isField || isSelf || isLength || isOwn(e), 4, tree, tree + " of the library");
    }

    // ---- loops

    @Override
    public Void visitWhileLoop(WhileLoopTree tree, Void v) {
        tell(9, tree, "a while");
        return super.visitWhileLoop(tree, v);
    }

    @Override
    public Void visitDoWhileLoop(DoWhileLoopTree tree, Void v) {
        tell(9, tree, "a do");
        return super.visitDoWhileLoop(tree, v);
    }

    /** A counter of the loop's own goes up to a bound by 1, and its body changes neither. */
    @Override
    public Void visitForLoop(ForLoopTree tree, Void v) {
        String counter = counterOf(tree);
        ExpressionTree bound = counter == null ? null : boundOf(tree.getCondition(), counter);
        need(bound != null, 9, tree, "a for without a counter against a bound");
        if (bound != null) {
            need(!changes(tree.getStatement(), counter), 9, tree, counter + " is changed in the loop");
            need(!changes(tree.getStatement(), bound.toString()), 9, tree, bound + " is changed in the loop");
        }
        return super.visitForLoop(tree, v);
    }

    private static String counterOf(ForLoopTree tree) {
        boolean plain = tree.getInitializer().size() == 1 && tree.getInitializer().get(0) instanceof VariableTree
            && tree.getUpdate().size() == 1;
        if (!plain || tree.getCondition() == null) {
            return null;
        }
        String counter = ((VariableTree) tree.getInitializer().get(0)).getName().toString();
        ExpressionStatementTree update = tree.getUpdate().get(0);
        return update.getExpression().toString().equals(counter + "++") ? counter : null;
    }

    private static ExpressionTree boundOf(ExpressionTree condition, String counter) {
        ExpressionTree is = stripped(condition);
        if (!(is instanceof BinaryTree)) {
            return null;
        }
        BinaryTree both = (BinaryTree) is;
        if (is.getKind() == Tree.Kind.CONDITIONAL_AND) {
            ExpressionTree left = boundOf(both.getLeftOperand(), counter);
            return left != null ? left : boundOf(both.getRightOperand(), counter);
        }
        boolean below = is.getKind() == Tree.Kind.LESS_THAN && both.getLeftOperand().toString().equals(counter);
        return below ? both.getRightOperand() : null;
    }

    private static boolean changes(StatementTree body, String what) {
        boolean[] found = {false};
        new TreeScanner<Void, Void>() {
            @Override
            public Void visitAssignment(AssignmentTree tree, Void v) {
                found[0] |= tree.getVariable().toString().equals(what);
                return super.visitAssignment(tree, v);
            }

            @Override
            public Void visitCompoundAssignment(CompoundAssignmentTree tree, Void v) {
                found[0] |= tree.getVariable().toString().equals(what);
                return super.visitCompoundAssignment(tree, v);
            }

            @Override
            public Void visitUnary(UnaryTree tree, Void v) {
                boolean steps = tree.getKind() == Tree.Kind.POSTFIX_INCREMENT || tree.getKind() == Tree.Kind.POSTFIX_DECREMENT
                    || tree.getKind() == Tree.Kind.PREFIX_INCREMENT || tree.getKind() == Tree.Kind.PREFIX_DECREMENT;
                found[0] |= steps && tree.getExpression().toString().equals(what);
                return super.visitUnary(tree, v);
            }
        }.scan(body, null);
        return found[0];
    }
}
