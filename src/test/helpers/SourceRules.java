import com.sun.source.tree.AssertTree;
import com.sun.source.tree.BinaryTree;
import com.sun.source.tree.BlockTree;
import com.sun.source.tree.ClassTree;
import com.sun.source.tree.CompilationUnitTree;
import com.sun.source.tree.DoWhileLoopTree;
import com.sun.source.tree.ExpressionTree;
import com.sun.source.tree.ForLoopTree;
import com.sun.source.tree.IdentifierTree;
import com.sun.source.tree.ImportTree;
import com.sun.source.tree.LambdaExpressionTree;
import com.sun.source.tree.LiteralTree;
import com.sun.source.tree.MemberReferenceTree;
import com.sun.source.tree.MemberSelectTree;
import com.sun.source.tree.MethodInvocationTree;
import com.sun.source.tree.MethodTree;
import com.sun.source.tree.NewArrayTree;
import com.sun.source.tree.NewClassTree;
import com.sun.source.tree.PackageTree;
import com.sun.source.tree.SynchronizedTree;
import com.sun.source.tree.ThrowTree;
import com.sun.source.tree.Tree;
import com.sun.source.tree.TryTree;
import com.sun.source.tree.VariableTree;
import com.sun.source.tree.WhileLoopTree;
import com.sun.source.util.JavacTask;
import com.sun.source.util.TreePath;
import com.sun.source.util.TreePathScanner;
import com.sun.source.util.Trees;
import java.io.IOException;
import java.util.ArrayList;
import java.util.HashMap;
import java.util.LinkedHashSet;
import java.util.List;
import java.util.Map;
import java.util.Set;
import javax.lang.model.element.Element;
import javax.lang.model.element.ElementKind;
import javax.lang.model.element.ExecutableElement;
import javax.lang.model.element.Modifier;
import javax.lang.model.element.TypeElement;
import javax.lang.model.type.ArrayType;
import javax.lang.model.type.TypeKind;
import javax.lang.model.type.TypeMirror;
import javax.lang.model.util.Types;
import javax.tools.JavaFileObject;
import javax.tools.ToolProvider;

/** Walks over a program's source and notes, with rule and line, what LANGUAGE.md does not leave of Java, as far as the source shows it. */
final class SourceRules extends TreePathScanner<Void, Void> {
    private static final int MOST_PARAMETERS = 7, LONGEST_METHOD = 60, MOST_CLASSES = 12, MOST_FIELDS = 20, DEEPEST_CALL = 8;
    private static final String TEXT = "java.lang.String", BOX = "java.lang.Integer";
    private static final Set<String> IMPORTS = Set.of("java.util.ArrayList", "java.util.List", "java.util.Iterator", "java.util.Arrays");
    private static final Set<String> TYPES = Set.of("int", "long", "short", "byte", "char", "boolean", "double", "float", TEXT, BOX,
            "java.lang.StringBuilder", "java.util.ArrayList", "java.util.List", "java.util.Iterator", "java.lang.Iterable", "java.lang.Comparable");
    private static final Set<String> CONSTANTS = Set.of("int", "long", "boolean", "char", TEXT);
    private static final Set<String> CONSTANT_ROWS = Set.of("int[]", "long[]", "char[]", "byte[]");
    private static final Set<String> WITH_FUNCTIONS = Set.of(BOX, "java.lang.Long", "java.lang.Math");
    private static final Map<String, Set<String>> LIBRARY = Map.of(
            TEXT, Set.of("length", "charAt", "isEmpty", "equals", "indexOf", "substring", "toCharArray"),
            "java.lang.StringBuilder", Set.of("append", "charAt", "setCharAt", "setLength", "deleteCharAt", "reverse", "length", "toString"),
            "java.util.List", Set.of("add", "get", "set", "remove", "size", "isEmpty", "clear", "of"),
            "java.util.ArrayList", Set.of("add", "get", "set", "remove", "size", "isEmpty", "clear"),
            "java.util.Iterator", Set.of("hasNext", "next"),
            "java.lang.Iterable", Set.of("iterator"),
            "java.lang.Comparable", Set.of("compareTo"),
            "java.lang.System", Set.of("arraycopy"),
            "java.util.Arrays", Set.of("copyOf", "copyOfRange", "fill"),
            "Array", Set.of("clone"));

    private final CompilationUnitTree unit;
    private final Trees trees;
    private final Types types;
    private final Map<Element, Set<Element>> calls = new HashMap<>();
    private final List<String> broken = new ArrayList<>();
    private int classes;

    private SourceRules(CompilationUnitTree unit, JavacTask task) {
        this.unit = unit;
        this.trees = Trees.instance(task);
        this.types = task.getTypes();
    }

    /** The rules that the source breaks, each as "rule n, line m: what". */
    static List<String> brokenIn(JavaFileObject source) throws IOException {
        JavacTask task = (JavacTask) ToolProvider.getSystemJavaCompiler()
                .getTask(null, null, problem -> { }, List.of("--release", "17", "-proc:none"), null, List.of(source));
        CompilationUnitTree unit = task.parse().iterator().next();
        task.analyze();
        SourceRules rules = new SourceRules(unit, task);
        rules.scan(unit, null);
        rules.countAll();
        return rules.broken;
    }

    private void countAll() {
        keep(11, unit, classes <= MOST_CLASSES, classes + " classes");
        for (Element method : calls.keySet()) {
            int depth = depth(method, new LinkedHashSet<>());
            keep(11, trees.getTree(method), depth <= DEEPEST_CALL, "calls go " + depth + " deep from " + method);
        }
    }

    /** How many calls stand open at most, but for those of a recursion. */
    private int depth(Element method, Set<Element> open) {
        if (!open.add(method)) {
            return 0;
        }
        int below = 0;
        for (Element called : calls.getOrDefault(method, Set.of())) {
            below = Math.max(below, depth(called, open));
        }
        open.remove(method);
        return below + 1;
    }

    private void keep(int rule, Tree where, boolean kept, String what) {
        if (!kept) {
            broken.add("rule " + rule + ", line " + line(trees.getSourcePositions().getStartPosition(unit, where)) + ": " + what);
        }
    }

    private Void ruledOut(int rule, Tree where) {
        keep(rule, where, false, where.getKind().toString());
        return null;
    }

    private long line(long position) {
        return position < 0 ? 0 : unit.getLineMap().getLineNumber(position);
    }

    private long lines(Tree node) {
        long from = trees.getSourcePositions().getStartPosition(unit, node);
        long to = trees.getSourcePositions().getEndPosition(unit, node);
        return line(to) - line(from) + 1;
    }

    private Element element(Tree tree) {
        return trees.getElement(TreePath.getPath(unit, tree));
    }

    private String typeName(Tree tree) {
        return trees.getTypeMirror(TreePath.getPath(unit, tree)).toString();
    }

    private boolean isOwn(Element element) {
        return element instanceof TypeElement && trees.getTree(element) != null;
    }

    private static Element home(Element member) {
        Element at = member;
        while (at != null && !(at instanceof TypeElement)) {
            at = at.getEnclosingElement();
        }
        return at;
    }

    private <T extends Tree> T around(Class<T> kind) {
        for (TreePath at = getCurrentPath().getParentPath(); at != null; at = at.getParentPath()) {
            if (kind.isInstance(at.getLeaf())) {
                return kind.cast(at.getLeaf());
            }
        }
        return null;
    }

    private boolean isLeft(TypeMirror type) {
        TypeMirror single = type;
        while (single instanceof ArrayType array) {
            single = array.getComponentType();
        }
        return single.getKind() == TypeKind.TYPEVAR || isOwn(types.asElement(single)) || TYPES.contains(types.erasure(single).toString());
    }

    @Override
    public Void visitPackage(PackageTree node, Void none) {
        return ruledOut(0, node);
    }

    @Override
    public Void visitImport(ImportTree node, Void none) {
        keep(4, node, IMPORTS.contains(node.getQualifiedIdentifier().toString()), node.toString().strip());
        return null;
    }

    @Override
    public Void visitClass(ClassTree node, Void none) {
        classes++;
        Tree outside = getCurrentPath().getParentPath().getLeaf();
        boolean nested = outside instanceof ClassTree;
        boolean inner = nested && node.getKind() == Tree.Kind.CLASS && !node.getModifiers().getFlags().contains(Modifier.STATIC);
        keep(2, node, nested || outside == unit, "a local or anonymous class");
        keep(2, node, !inner, "an inner class that isn't static");
        long fields = node.getMembers().stream().filter(member -> member instanceof VariableTree field && !isStatic(field)).count();
        keep(11, node, fields <= MOST_FIELDS, fields + " fields");
        return super.visitClass(node, none);
    }

    private static boolean isStatic(VariableTree variable) {
        return variable.getModifiers().getFlags().contains(Modifier.STATIC);
    }

    @Override
    public Void visitMethod(MethodTree node, Void none) {
        calls.computeIfAbsent(element(node), key -> new LinkedHashSet<>());
        String name = node.getName().toString();
        Set<Modifier> flags = node.getModifiers().getFlags();
        keep(6, node, node.getThrows().isEmpty(), name + " throws");
        keep(6, node, !flags.contains(Modifier.NATIVE) && !flags.contains(Modifier.SYNCHRONIZED), name + " is " + flags);
        keep(6, node, !Set.of("equals", "hashCode", "toString", "finalize").contains(name), name + " of its own");
        keep(11, node, node.getParameters().size() <= MOST_PARAMETERS, name + " has too many parameters");
        keep(11, node, lines(node) <= LONGEST_METHOD, name + " is too long");
        return super.visitMethod(node, none);
    }

    @Override
    public Void visitVariable(VariableTree node, Void none) {
        TypeMirror type = trees.getTypeMirror(getCurrentPath());
        keep(3, node, isLeft(type), node.getName() + " is " + type);
        keep(3, node, !type.toString().endsWith("[][][]"), node.getName() + " is " + type);
        if (isStatic(node) && element(node).getKind() != ElementKind.ENUM_CONSTANT) {
            keepStatic(node, type.toString());
        }
        return super.visitVariable(node, none);
    }

    private void keepStatic(VariableTree node, String type) {
        boolean row = CONSTANT_ROWS.contains(type) && node.getInitializer() instanceof NewArrayTree made && made.getInitializers() != null;
        boolean kinds = node.getInitializer() instanceof MethodInvocationTree call && call.toString().matches("(\\w+\\.)?values\\(\\)");
        keep(5, node, node.getModifiers().getFlags().contains(Modifier.FINAL), node.getName() + " is static, not final");
        keep(5, node, row || kinds || CONSTANTS.contains(type), node.getName() + " is static and " + type);
    }

    @Override
    public Void visitBlock(BlockTree node, Void none) {
        keep(5, node, !node.isStatic(), "a static initialiser block");
        return super.visitBlock(node, none);
    }

    @Override
    public Void visitMethodInvocation(MethodInvocationTree node, Void none) {
        ExecutableElement called = (ExecutableElement) element(node);
        if (isOwn(home(called))) {
            noteCall(called);
        } else {
            keep(4, node, isLeft(called), node.toString());
            boolean divides = called.getSimpleName().toString().startsWith("floor");
            keep(7, node, !divides || isSafeDivisor(node.getArguments().get(1)), node.toString());
        }
        return super.visitMethodInvocation(node, none);
    }

    private boolean isLeft(ExecutableElement called) {
        String home = home(called).toString();
        String name = called.getSimpleName().toString();
        if (WITH_FUNCTIONS.contains(home)) {
            boolean whole = called.getParameters().stream().allMatch(p -> Set.of("int", "long").contains(p.asType().toString()));
            return called.getModifiers().contains(Modifier.STATIC) && whole && !called.getParameters().isEmpty() && !name.endsWith("Exact");
        }
        return name.equals("<init>") || LIBRARY.getOrDefault(home, Set.of()).contains(name);
    }

    private void noteCall(Element called) {
        MethodTree caller = around(MethodTree.class);
        if (caller != null) {
            calls.computeIfAbsent(element(caller), key -> new LinkedHashSet<>()).add(called);
        }
    }

    @Override
    public Void visitIdentifier(IdentifierTree node, Void none) {
        return keepField(node);
    }

    @Override
    public Void visitMemberSelect(MemberSelectTree node, Void none) {
        keepField(node);
        return super.visitMemberSelect(node, none);
    }

    private Void keepField(ExpressionTree node) {
        Element named = element(node);
        boolean field = named != null && named.getKind() == ElementKind.FIELD;
        boolean always = field && Set.of("length", "this", "super").contains(named.getSimpleName().toString());
        keep(4, node, !field || always || isOwn(home(named)), node.toString());
        return null;
    }

    @Override
    public Void visitNewClass(NewClassTree node, Void none) {
        keep(4, node, isLeft(trees.getTypeMirror(getCurrentPath())), node.toString());
        Element constructor = element(node);
        if (isOwn(home(constructor))) {
            noteCall(constructor);
        }
        return super.visitNewClass(node, none);
    }

    @Override
    public Void visitBinary(BinaryTree node, Void none) {
        Set<String> sides = Set.copyOf(List.of(typeName(node.getLeftOperand()), typeName(node.getRightOperand())));
        switch (node.getKind()) {
            case PLUS:
                keep(10, node, !sides.contains(TEXT), "texts joined by +");
                break;
            case EQUAL_TO:
            case NOT_EQUAL_TO:
                keep(6, node, !sides.equals(Set.of(TEXT)) && !sides.equals(Set.of(BOX)), node.toString());
                break;
            case DIVIDE:
            case REMAINDER:
                keep(7, node, isSafeDivisor(node.getRightOperand()), node.toString());
                break;
            default:
                break;
        }
        return super.visitBinary(node, none);
    }

    /** A number that is written out and is not 0, or a name that the method compares with 0. */
    private boolean isSafeDivisor(ExpressionTree divisor) {
        if (divisor instanceof LiteralTree literal) {
            return literal.getValue() instanceof Number number && number.longValue() != 0;
        }
        MethodTree method = around(MethodTree.class);
        return method != null && method.getBody().toString().matches("(?s).*\\b\\Q" + divisor + "\\E (>|!=|<=|==) 0\\b.*");
    }

    @Override
    public Void visitForLoop(ForLoopTree node, Void none) {
        keep(9, node, node.getCondition() != null && !node.getUpdate().isEmpty(), "a for without a bound or a step");
        return super.visitForLoop(node, none);
    }

    @Override
    public Void visitWhileLoop(WhileLoopTree node, Void none) {
        keep(9, node, !node.getCondition().toString().equals("(true)"), "a loop without an end");
        return super.visitWhileLoop(node, none);
    }

    @Override
    public Void visitDoWhileLoop(DoWhileLoopTree node, Void none) {
        keep(9, node, !node.getCondition().toString().equals("(true)"), "a loop without an end");
        return super.visitDoWhileLoop(node, none);
    }

    @Override
    public Void visitLambdaExpression(LambdaExpressionTree node, Void none) {
        return ruledOut(2, node);
    }

    @Override
    public Void visitMemberReference(MemberReferenceTree node, Void none) {
        return ruledOut(2, node);
    }

    @Override
    public Void visitThrow(ThrowTree node, Void none) {
        return ruledOut(6, node);
    }

    @Override
    public Void visitTry(TryTree node, Void none) {
        return ruledOut(6, node);
    }

    @Override
    public Void visitSynchronized(SynchronizedTree node, Void none) {
        return ruledOut(6, node);
    }

    @Override
    public Void visitAssert(AssertTree node, Void none) {
        return ruledOut(6, node);
    }
}
