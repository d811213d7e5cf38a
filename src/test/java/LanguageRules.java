import com.sun.source.tree.AnnotationTree;
import com.sun.source.tree.ArrayAccessTree;
import com.sun.source.tree.AssertTree;
import com.sun.source.tree.AssignmentTree;
import com.sun.source.tree.BinaryTree;
import com.sun.source.tree.BlockTree;
import com.sun.source.tree.ClassTree;
import com.sun.source.tree.CompilationUnitTree;
import com.sun.source.tree.CompoundAssignmentTree;
import com.sun.source.tree.DoWhileLoopTree;
import com.sun.source.tree.ExpressionTree;
import com.sun.source.tree.ForLoopTree;
import com.sun.source.tree.IdentifierTree;
import com.sun.source.tree.ImportTree;
import com.sun.source.tree.InstanceOfTree;
import com.sun.source.tree.LambdaExpressionTree;
import com.sun.source.tree.LiteralTree;
import com.sun.source.tree.MemberReferenceTree;
import com.sun.source.tree.MemberSelectTree;
import com.sun.source.tree.MethodInvocationTree;
import com.sun.source.tree.MethodTree;
import com.sun.source.tree.NewArrayTree;
import com.sun.source.tree.NewClassTree;
import com.sun.source.tree.SynchronizedTree;
import com.sun.source.tree.ThrowTree;
import com.sun.source.tree.Tree;
import com.sun.source.tree.TryTree;
import com.sun.source.tree.TypeCastTree;
import com.sun.source.tree.UnaryTree;
import com.sun.source.tree.VariableTree;
import com.sun.source.tree.WhileLoopTree;
import com.sun.source.util.JavacTask;
import com.sun.source.util.TreePath;
import com.sun.source.util.TreePathScanner;
import com.sun.source.util.Trees;
import java.io.IOException;
import java.io.StringWriter;
import java.net.URI;
import java.util.ArrayList;
import java.util.HashMap;
import java.util.LinkedHashSet;
import java.util.List;
import java.util.Map;
import java.util.Set;
import javax.lang.model.element.Element;
import javax.lang.model.element.ElementKind;
import javax.lang.model.element.ExecutableElement;
import javax.lang.model.element.Modifier;
import javax.lang.model.element.TypeElement;
import javax.lang.model.type.ArrayType;
import javax.lang.model.type.DeclaredType;
import javax.lang.model.type.TypeKind;
import javax.lang.model.type.TypeMirror;
import javax.lang.model.util.ElementFilter;
import javax.tools.JavaFileObject;
import javax.tools.SimpleJavaFileObject;
import javax.tools.ToolProvider;

/**
 * Reads a program by the rules of ../shared/LANGUAGE.md and tells what in it is outside them. It refuses some of what
 * the rules leave and the program has no need of: recursion, own generic classes, lists, doubles, objects and arrays
 * that are made by a call. What cannot be seen in a source (rules 1 and 7) is for FaceTest and LanguageTest.
 */
final class LanguageRules extends TreePathScanner<Void, Void> {
    private static final int MOST_CLASSES = 12;
    private static final int MOST_FIELDS = 20;
    private static final int MOST_LINES = 60;
    private static final int MOST_PARAMETERS = 7;
    private static final int DEEPEST_CALL = 8;

    private static final Set<String> LIBRARY = Set.of(
        "String.length", "String.charAt", "String.isEmpty", "String.equals", "String.indexOf", "String.substring",
        "String.toCharArray", "StringBuilder.append", "StringBuilder.charAt", "StringBuilder.setCharAt",
        "StringBuilder.setLength", "StringBuilder.deleteCharAt", "StringBuilder.reverse", "StringBuilder.length",
        "StringBuilder.toString", "Math.max", "Math.min", "Math.abs", "Math.floorDiv", "Math.floorMod",
        "Integer.compare", "Integer.max", "Integer.min", "Integer.bitCount", "Long.compare", "Long.max", "Long.min",
        "Long.bitCount", "System.arraycopy", "Arrays.copyOf", "Arrays.copyOfRange", "Arrays.fill");
    private static final Set<String> LIBRARY_TYPES =
        Set.of("String", "StringBuilder", "Math", "Integer", "Long", "System", "Arrays");
    private static final Set<TypeKind> NUMBERS =
        Set.of(TypeKind.INT, TypeKind.LONG, TypeKind.SHORT, TypeKind.BYTE, TypeKind.CHAR);

    private final Trees trees;
    private final CompilationUnitTree unit;
    private final List<String> faults = new ArrayList<>();
    private final Map<Element, Set<Element>> calls = new HashMap<>();
    private int classes = 0;

    private LanguageRules(Trees trees, CompilationUnitTree unit) {
        this.trees = trees;
        this.unit = unit;
    }

    /** What is outside the rules, a line each, with the number of the rule first. */
    static List<String> faults(String source) throws IOException {
        JavaFileObject file = new SimpleJavaFileObject(URI.create("string:///ShiftMender.java"),
                JavaFileObject.Kind.SOURCE) {
            @Override
            public CharSequence getCharContent(boolean ignoreEncodingErrors) {
                return source;
            }
        };
        StringWriter said = new StringWriter();
        JavacTask task = (JavacTask) ToolProvider.getSystemJavaCompiler()
            .getTask(said, null, null, List.of("-proc:none"), null, List.of(file));
        CompilationUnitTree unit = task.parse().iterator().next();
        task.analyze();
        LanguageRules rules = new LanguageRules(Trees.instance(task), unit);
        if (!said.toString().isEmpty()) {
            rules.faults.add("0, it does not compile: " + said);
        }
        rules.scan(unit, null);
        rules.lookAtCalls();
        return rules.faults;
    }

    private void fault(int rule, Tree at, String what) {
        long start = trees.getSourcePositions().getStartPosition(unit, at);
        faults.add(rule + ", line " + unit.getLineMap().getLineNumber(Math.max(0, start)) + ": " + what);
    }

    private void check(boolean holds, int rule, Tree at, String what) {
        if (!holds) {
            fault(rule, at, what);
        }
    }

    // ---- what a name or an expression stands for

    private Element element() {
        return trees.getElement(getCurrentPath());
    }

    private Element element(Tree below) {
        return trees.getElement(new TreePath(getCurrentPath(), below));
    }

    private TypeMirror type(Tree below) {
        return trees.getTypeMirror(new TreePath(getCurrentPath(), below));
    }

    private static Element outermost(Element e) {
        Element at = e;
        while (at.getEnclosingElement() != null && at.getEnclosingElement().getKind() != ElementKind.PACKAGE) {
            at = at.getEnclosingElement();
        }
        return at;
    }

    private static boolean isOwn(Element e) {
        return outermost(e).getSimpleName().contentEquals("ShiftMender");
    }

    private static boolean isOwn(TypeMirror type) {
        return type.getKind() == TypeKind.DECLARED && isOwn(((DeclaredType) type).asElement());
    }

    private static boolean isClass(TypeMirror type, String name) {
        return type != null && type.getKind() == TypeKind.DECLARED && type.toString().equals("java.lang." + name);
    }

    private static boolean isConstant(Element e) {
        return e != null && e.getKind() == ElementKind.FIELD && e.getModifiers().contains(Modifier.STATIC);
    }

    // ---- rules 1, 2, 5 and 11: classes and their members

    @Override
    public Void visitCompilationUnit(CompilationUnitTree node, Void none) {
        check(node.getPackageName() == null, 1, node, "a package");
        check(node.getTypeDecls().size() == 1, 1, node, "not one class alone");
        return super.visitCompilationUnit(node, none);
    }

    @Override
    public Void visitImport(ImportTree node, Void none) {
        check(node.getQualifiedIdentifier().toString().equals("java.util.Arrays"), 4, node, "an import");
        return null;
    }

    @Override
    public Void visitClass(ClassTree node, Void none) {
        classes++;
        check(classes <= MOST_CLASSES, 11, node, "more than twelve classes");
        Set<Modifier> modifiers = element().getModifiers();
        Tree outside = getCurrentPath().getParentPath().getLeaf();
        if (outside == unit) {
            check(modifiers.equals(Set.of(Modifier.PUBLIC, Modifier.FINAL)), 1, node, "a class not public and final");
        } else {
            check(getCurrentPath().getParentPath().getParentPath().getLeaf() == unit, 2, node, "a class deep inside");
            check(modifiers.contains(Modifier.STATIC), 2, node, "a class inside that is not static");
            check(!modifiers.contains(Modifier.PUBLIC) && !modifiers.contains(Modifier.PROTECTED), 1, node,
                "a class inside that can be seen");
        }
        check(node.getTypeParameters().isEmpty(), 3, node, "a generic class");
        int fields = 0;
        for (Element e : ElementFilter.fieldsIn(element().getEnclosedElements())) {
            fields += isConstant(e) ? 0 : 1;
        }
        check(fields <= MOST_FIELDS, 11, node, "more than twenty fields");
        return super.visitClass(node, none);
    }

    @Override
    public Void visitBlock(BlockTree node, Void none) {
        check(!node.isStatic(), 5, node, "a static initialiser");
        return super.visitBlock(node, none);
    }

    @Override
    public Void visitMethod(MethodTree node, Void none) {
        ExecutableElement method = (ExecutableElement) element();
        calls.computeIfAbsent(method, key -> new LinkedHashSet<>());
        String name = node.getName().toString();
        check(node.getParameters().size() <= MOST_PARAMETERS, 11, node, "more than seven parameters");
        check(node.getThrows().isEmpty(), 6, node, "a declared exception");
        check(node.getTypeParameters().isEmpty(), 3, node, "a generic method");
        check(!Set.of("equals", "hashCode", "toString", "finalize").contains(name), 6, node, "a method " + name);
        check(!method.getModifiers().contains(Modifier.SYNCHRONIZED), 6, node, "synchronized");
        check(!method.getModifiers().contains(Modifier.NATIVE), 4, node, "native");
        long from = trees.getSourcePositions().getStartPosition(unit, node);
        long to = trees.getSourcePositions().getEndPosition(unit, node);
        long lines = from < 0 || to < 0 ? 0
            : unit.getLineMap().getLineNumber(to) - unit.getLineMap().getLineNumber(from) + 1;
        check(lines <= MOST_LINES, 11, node, "a method of " + lines + " lines");
        TypeMirror answer = method.getReturnType();
        check(answer.getKind() == TypeKind.VOID || isLeft(answer), 3, node, "a method that answers " + answer);
        return super.visitMethod(node, none);
    }

    @Override
    public Void visitVariable(VariableTree node, Void none) {
        TypeMirror type = trees.getTypeMirror(getCurrentPath());
        check(isLeft(type), 3, node, "the type " + type);
        Element e = element();
        check(!e.getModifiers().contains(Modifier.VOLATILE), 6, node, "volatile");
        if (isConstant(e)) {
            check(e.getModifiers().contains(Modifier.FINAL), 5, node, "a static field that is not final");
            boolean row = type.getKind() == TypeKind.ARRAY;
            check(!row || node.getInitializer() instanceof NewArrayTree, 5, node, "a static row not written out");
            check(!isOwn(type) || type.getKind() != TypeKind.DECLARED, 5, node, "a static object");
        }
        return super.visitVariable(node, none);
    }

    /** Whether the rules leave this type (and the program can have need of it). */
    private static boolean isLeft(TypeMirror type) {
        if (type.getKind() == TypeKind.ARRAY) {
            TypeMirror part = ((ArrayType) type).getComponentType();
            if (part.getKind() == TypeKind.ARRAY) {
                return NUMBERS.contains(((ArrayType) part).getComponentType().getKind());
            }
            return NUMBERS.contains(part.getKind()) || part.getKind() == TypeKind.BOOLEAN || isOwn(part);
        }
        return NUMBERS.contains(type.getKind()) || type.getKind() == TypeKind.BOOLEAN || isOwn(type)
            || isClass(type, "String") || isClass(type, "StringBuilder");
    }

    // ---- rules 2, 6, 9 and 10: statements and expressions

    @Override
    public Void visitLambdaExpression(LambdaExpressionTree node, Void none) {
        fault(2, node, "a lambda");
        return null;
    }

    @Override
    public Void visitMemberReference(MemberReferenceTree node, Void none) {
        fault(2, node, "a method reference");
        return null;
    }

    @Override
    public Void visitThrow(ThrowTree node, Void none) {
        fault(6, node, "throw");
        return super.visitThrow(node, none);
    }

    @Override
    public Void visitTry(TryTree node, Void none) {
        fault(6, node, "try");
        return super.visitTry(node, none);
    }

    @Override
    public Void visitSynchronized(SynchronizedTree node, Void none) {
        fault(6, node, "synchronized");
        return super.visitSynchronized(node, none);
    }

    @Override
    public Void visitAssert(AssertTree node, Void none) {
        fault(6, node, "assert");
        return super.visitAssert(node, none);
    }

    @Override
    public Void visitInstanceOf(InstanceOfTree node, Void none) {
        fault(6, node, "instanceof");
        return super.visitInstanceOf(node, none);
    }

    @Override
    public Void visitTypeCast(TypeCastTree node, Void none) {
        check(type(node.getType()).getKind().isPrimitive(), 6, node, "a cast of an object");
        return super.visitTypeCast(node, none);
    }

    @Override
    public Void visitAnnotation(AnnotationTree node, Void none) {
        fault(4, node, "an annotation");
        return null;
    }

    @Override
    public Void visitLiteral(LiteralTree node, Void none) {
        if (node.getValue() instanceof String text) {
            check(text.chars().allMatch(sign -> sign >= 1 && sign <= 127), 4, node, "a sign beyond 127");
        }
        check(!(node.getValue() instanceof Double || node.getValue() instanceof Float), 3, node, "a double");
        return super.visitLiteral(node, none);
    }

    @Override
    public Void visitBinary(BinaryTree node, Void none) {
        TypeMirror left = type(node.getLeftOperand());
        TypeMirror right = type(node.getRightOperand());
        boolean texts = isClass(left, "String") || isClass(right, "String");
        check(node.getKind() != Tree.Kind.PLUS || !texts, 10, node, "texts joined by +");
        if (node.getKind() == Tree.Kind.EQUAL_TO || node.getKind() == Tree.Kind.NOT_EQUAL_TO) {
            check(!(isClass(left, "String") && isClass(right, "String")), 6, node, "== between texts");
        }
        return super.visitBinary(node, none);
    }

    @Override
    public Void visitCompoundAssignment(CompoundAssignmentTree node, Void none) {
        check(!isClass(type(node.getVariable()), "String"), 10, node, "texts joined by +=");
        lookAtChange(node.getVariable());
        return super.visitCompoundAssignment(node, none);
    }

    @Override
    public Void visitAssignment(AssignmentTree node, Void none) {
        lookAtChange(node.getVariable());
        return super.visitAssignment(node, none);
    }

    @Override
    public Void visitUnary(UnaryTree node, Void none) {
        if (node.getKind().toString().contains("CREMENT")) {
            lookAtChange(node.getExpression());
        }
        return super.visitUnary(node, none);
    }

    private void lookAtChange(ExpressionTree changed) {
        TreePath at = new TreePath(getCurrentPath(), changed);
        while (at.getLeaf() instanceof ArrayAccessTree row) {
            at = new TreePath(at, row.getExpression());
        }
        check(!isConstant(trees.getElement(at)), 5, changed, "a constant is changed");
    }

    @Override
    public Void visitForLoop(ForLoopTree node, Void none) {
        lookAtEnd(node.getCondition(), node);
        return super.visitForLoop(node, none);
    }

    @Override
    public Void visitWhileLoop(WhileLoopTree node, Void none) {
        lookAtEnd(node.getCondition(), node);
        return super.visitWhileLoop(node, none);
    }

    @Override
    public Void visitDoWhileLoop(DoWhileLoopTree node, Void none) {
        lookAtEnd(node.getCondition(), node);
        return super.visitDoWhileLoop(node, none);
    }

    private void lookAtEnd(ExpressionTree condition, Tree loop) {
        boolean bound = condition != null && condition.toString().matches("(?s).*[<>].*");
        check(bound, 9, loop, "a loop without a counter against a bound");
    }

    // ---- rules 4, 8, 11, 12 and 13: calls, and what they make

    @Override
    public Void visitMethodInvocation(MethodInvocationTree node, Void none) {
        Element called = element();
        if (isOwn(called)) {
            addCall(called);
        } else if (!called.getSimpleName().contentEquals("<init>")) {
            String name = called.getEnclosingElement().getSimpleName() + "." + called.getSimpleName();
            boolean copy = name.equals("Array.clone");
            check(copy || LIBRARY.contains(name), 4, node, "the call of " + name);
            addCall(called);
        }
        lookAtGiven(node.getArguments());
        return super.visitMethodInvocation(node, none);
    }

    @Override
    public Void visitNewClass(NewClassTree node, Void none) {
        check(node.getClassBody() == null, 2, node, "an anonymous class");
        check(isOwn(trees.getTypeMirror(getCurrentPath())), 4, node, "new " + node.getIdentifier());
        check(isMadeOnce(), 12, node, "an object made by a call");
        addCall(element());
        lookAtGiven(node.getArguments());
        return super.visitNewClass(node, none);
    }

    /** A constructor, or the initialiser of a field, hands out nothing of the object that it makes. */
    private void lookAtGiven(List<? extends ExpressionTree> all) {
        Element method = enclosingMethod();
        if (method != null && method.getKind() != ElementKind.CONSTRUCTOR) {
            return;
        }
        for (ExpressionTree given : all) {
            Element e = element(given);
            boolean part = e != null && e.getKind() == ElementKind.FIELD && !isConstant(e);
            check(!part && !given.toString().equals("this"), 12, given, "a constructor hands out " + given);
        }
    }

    @Override
    public Void visitNewArray(NewArrayTree node, Void none) {
        check(isMadeOnce(), 12, node, "an array made by a call");
        return super.visitNewArray(node, none);
    }

    @Override
    public Void visitIdentifier(IdentifierTree node, Void none) {
        lookAtName(node);
        return super.visitIdentifier(node, none);
    }

    @Override
    public Void visitMemberSelect(MemberSelectTree node, Void none) {
        lookAtName(node);
        return super.visitMemberSelect(node, none);
    }

    private void lookAtName(Tree node) {
        Element e = element();
        if (e == null || isOwn(e)) {
            return;
        }
        if (e instanceof TypeElement) {
            check(LIBRARY_TYPES.contains(e.getSimpleName().toString()), 4, node, "the class " + e);
        } else if (e.getKind() == ElementKind.FIELD) {
            check(e.getSimpleName().contentEquals("length"), 4, node, "the field " + e);
        }
    }

    /** Whether this place is an initialiser of a field. */
    private boolean isMadeOnce() {
        return enclosingMethod() == null;
    }

    private Element enclosingMethod() {
        for (TreePath at = getCurrentPath(); at != null; at = at.getParentPath()) {
            if (at.getLeaf() instanceof MethodTree) {
                return trees.getElement(at);
            }
        }
        return null;
    }

    /** What the initialiser of a field calls, each constructor of the class calls. */
    private void addCall(Element called) {
        Element caller = enclosingMethod();
        if (caller != null) {
            calls.computeIfAbsent(caller, key -> new LinkedHashSet<>()).add(called);
            return;
        }
        for (TreePath at = getCurrentPath(); at != null; at = at.getParentPath()) {
            if (at.getLeaf() instanceof ClassTree) {
                for (Element e : ElementFilter.constructorsIn(trees.getElement(at).getEnclosedElements())) {
                    calls.computeIfAbsent(e, key -> new LinkedHashSet<>()).add(called);
                }
                return;
            }
        }
    }

    private void lookAtCalls() {
        for (Element method : calls.keySet()) {
            follow(method, new ArrayList<>());
        }
    }

    private void follow(Element method, List<Element> open) {
        if (open.contains(method)) {
            faults.add("8, recursion: " + open + " " + method);
            return;
        }
        open.add(method);
        if (open.size() > DEEPEST_CALL) {
            faults.add("11, calls deeper than eight: " + open);
        } else {
            for (Element called : calls.getOrDefault(method, Set.of())) {
                follow(called, open);
            }
        }
        open.remove(open.size() - 1);
    }
}
