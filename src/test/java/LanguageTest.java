import com.sun.source.tree.AssertTree;
import com.sun.source.tree.BinaryTree;
import com.sun.source.tree.BlockTree;
import com.sun.source.tree.CatchTree;
import com.sun.source.tree.ClassTree;
import com.sun.source.tree.CompilationUnitTree;
import com.sun.source.tree.CompoundAssignmentTree;
import com.sun.source.tree.ExpressionTree;
import com.sun.source.tree.LambdaExpressionTree;
import com.sun.source.tree.LiteralTree;
import com.sun.source.tree.MemberReferenceTree;
import com.sun.source.tree.MethodInvocationTree;
import com.sun.source.tree.MethodTree;
import com.sun.source.tree.NewClassTree;
import com.sun.source.tree.SynchronizedTree;
import com.sun.source.tree.ThrowTree;
import com.sun.source.tree.Tree;
import com.sun.source.tree.TryTree;
import com.sun.source.tree.VariableTree;
import com.sun.source.util.JavacTask;
import com.sun.source.util.TreePath;
import com.sun.source.util.TreePathScanner;
import com.sun.source.util.Trees;
import java.nio.file.Path;
import java.util.ArrayList;
import java.util.HashMap;
import java.util.HashSet;
import java.util.List;
import java.util.Map;
import java.util.Set;
import java.util.TreeMap;
import java.util.TreeSet;
import javax.lang.model.element.Element;
import javax.lang.model.element.ElementKind;
import javax.lang.model.element.Modifier;
import javax.lang.model.element.VariableElement;
import javax.lang.model.type.TypeMirror;
import javax.tools.JavaCompiler;
import javax.tools.StandardJavaFileManager;
import javax.tools.ToolProvider;

/**
 * The rules of ../shared/LANGUAGE.md that can be told from the text of the class, each under its number.
 * What is used of the library is held against the part of rule 4 that the class needs.
 */
public final class LanguageTest extends TreePathScanner<Void, Void> {
    private static final Path SOURCE = Path.of("src", "main", "java", "AccentHouse.java");
    private static final Set<String> LIBRARY = Set.of("String.length()", "String.charAt(int)", "String.substring(int,int)",
            "StringBuilder.append(char)", "StringBuilder.append(int)", "StringBuilder.append(java.lang.String)",
            "StringBuilder.charAt(int)", "StringBuilder.setLength(int)", "StringBuilder.length()", "StringBuilder.toString()",
            "Math.min(int,int)", "System.arraycopy(java.lang.Object,int,java.lang.Object,int,int)");
    private static final Set<String> TYPES = Set.of("void", "int", "long", "short", "byte", "char", "boolean", "double", "float",
            "int[]", "byte[]", "char[]", "boolean[]", "java.lang.String", "java.lang.StringBuilder");
    private static final Set<String> STATIC_TYPES = Set.of("int", "long", "boolean", "char", "java.lang.String");
    private static final Set<String> EXCEPTIONS = Set.of("java.lang.IllegalStateException",
            "java.lang.IllegalArgumentException", "java.lang.IndexOutOfBoundsException");

    private final CompilationUnitTree unit;
    private final Trees trees;
    private final Map<Element, Set<Element>> calls = new HashMap<>();
    private final Map<String, Integer> fields = new TreeMap<>();
    private final Set<String> publicMethods = new TreeSet<>();
    private final Set<String> otherMethods = new TreeSet<>();

    private LanguageTest(CompilationUnitTree unit, Trees trees) {
        this.unit = unit;
        this.trees = trees;
    }

    public static void main(String[] args) throws Exception {
        JavaCompiler compiler = ToolProvider.getSystemJavaCompiler();
        try (StandardJavaFileManager files = compiler.getStandardFileManager(null, null, null)) {
            JavacTask task = (JavacTask) compiler.getTask(null, files, null, List.of("-proc:none"), null,
                    files.getJavaFileObjects(SOURCE));
            CompilationUnitTree unit = task.parse().iterator().next();
            task.analyze();
            new LanguageTest(unit, Trees.instance(task)).check();
        }
        Check.finish();
    }

    private void check() {
        Check.equal("rule 1: a package line", unit.getPackage() == null, true);
        Check.equal("rule 1: classes beside the one", unit.getTypeDecls().size(), 1);
        Check.equal("rule 4: imports", unit.getImports().size(), 0);
        scan(unit, null);
        for (String name : otherMethods) {
            Check.equal("rule 1: a private method named " + name, publicMethods.contains(name), false);
        }
        atMost("rule 11: classes", fields.size(), 12);
        for (Map.Entry<String, Integer> ofClass : fields.entrySet()) {
            atMost("rule 11: fields of " + ofClass.getKey(), ofClass.getValue(), 20);
        }
        for (Element method : calls.keySet()) {
            atMost("rule 11: calls open under " + method, depth(method, new HashSet<>()), 8);
        }
    }

    private static void atMost(String what, int count, int most) {
        Check.equal(what + ", of which there are " + count, count <= most, true);
    }

    /** How many calls are open at once at most; a method that comes back to itself counts as too many. */
    private int depth(Element method, Set<Element> open) {
        if (!open.add(method)) {
            return 1000;
        }
        int deepest = 0;
        for (Element called : calls.getOrDefault(method, Set.of())) {
            deepest = Math.max(deepest, depth(called, open));
        }
        open.remove(method);
        return deepest + 1;
    }

    private void allowed(int rule, String what, boolean isAllowed) {
        long line = unit.getLineMap().getLineNumber(
                trees.getSourcePositions().getStartPosition(unit, getCurrentPath().getLeaf()));
        Check.equal("rule " + rule + ", line " + line + ": " + what, isAllowed, true);
    }

    private Element element() {
        return trees.getElement(getCurrentPath());
    }

    private boolean isOwn(Element element) {
        for (Element outer = element; outer != null; outer = outer.getEnclosingElement()) {
            if (outer.getSimpleName().contentEquals("AccentHouse")) {
                return true;
            }
        }
        return false;
    }

    private void checkType(Tree type) {
        TypeMirror mirror = trees.getTypeMirror(new TreePath(getCurrentPath(), type));
        String name = mirror.toString();
        allowed(3, "the type " + name, TYPES.contains(name) || name.matches("AccentHouse(\\.\\w+)?(\\[\\])?"));
    }

    private void checkLength(Tree tree) {
        long from = trees.getSourcePositions().getStartPosition(unit, tree);
        long to = trees.getSourcePositions().getEndPosition(unit, tree);
        atMost("rule 11: lines of " + element(),
                (int) (unit.getLineMap().getLineNumber(to) - unit.getLineMap().getLineNumber(from)) + 1, 60);
    }

    @Override
    public Void visitClass(ClassTree tree, Void unused) {
        Element element = element();
        if (element.getEnclosingElement().getKind() == ElementKind.CLASS) {
            allowed(1, "a class inside that others see", !element.getModifiers().contains(Modifier.PUBLIC)
                    && !element.getModifiers().contains(Modifier.PROTECTED));
            allowed(1, "a class inside that is not static", element.getModifiers().contains(Modifier.STATIC));
        } else {
            allowed(2, "a class in a method", element.toString().equals("AccentHouse"));
        }
        int count = 0;
        for (Element member : element.getEnclosedElements()) {
            if (member.getKind() == ElementKind.FIELD && ((VariableElement) member).getConstantValue() == null) {
                count++;
            }
        }
        fields.put(element.toString(), count);
        return super.visitClass(tree, unused);
    }

    @Override
    public Void visitVariable(VariableTree tree, Void unused) {
        Element element = element();
        if (element.getKind() == ElementKind.FIELD && element.getModifiers().contains(Modifier.STATIC)) {
            allowed(5, "a static field that may change", element.getModifiers().contains(Modifier.FINAL)
                    && STATIC_TYPES.contains(element.asType().toString()));
        }
        if (element.getKind() != ElementKind.ENUM_CONSTANT) {
            checkType(tree.getType());
        }
        return super.visitVariable(tree, unused);
    }

    @Override
    public Void visitMethod(MethodTree tree, Void unused) {
        Element element = element();
        calls.putIfAbsent(element, new HashSet<>());
        if (element.getModifiers().contains(Modifier.PUBLIC)) {
            publicMethods.add(tree.getName().toString());
        } else if (element.getKind() == ElementKind.METHOD && element.getModifiers().contains(Modifier.PRIVATE)) {
            otherMethods.add(tree.getName().toString());
        }
        atMost("rule 11: parameters of " + element, tree.getParameters().size(), 7);
        checkLength(tree);
        if (tree.getReturnType() != null) {
            checkType(tree.getReturnType());
        }
        for (ExpressionTree thrown : tree.getThrows()) {
            allowed(6, "throws " + thrown, EXCEPTIONS.contains("java.lang." + thrown));
        }
        return super.visitMethod(tree, unused);
    }

    private void called(Element method) {
        for (TreePath path = getCurrentPath(); path != null; path = path.getParentPath()) {
            if (path.getLeaf() instanceof MethodTree) {
                calls.computeIfAbsent(trees.getElement(path), caller -> new HashSet<>()).add(method);
                return;
            }
        }
    }

    @Override
    public Void visitMethodInvocation(MethodInvocationTree tree, Void unused) {
        Element method = element();
        called(method);
        if (!isOwn(method) && method.getKind() != ElementKind.CONSTRUCTOR) {
            // Some of StringBuilder's methods are declared in AbstractStringBuilder.
            String name = method.getEnclosingElement().getSimpleName().toString().replace("Abstract", "") + "." + method;
            allowed(4, name, LIBRARY.contains(name));
        }
        return super.visitMethodInvocation(tree, unused);
    }

    @Override
    public Void visitNewClass(NewClassTree tree, Void unused) {
        Element constructor = element();
        called(constructor);
        String made = constructor.getEnclosingElement().toString();
        allowed(4, "new " + made, isOwn(constructor) || made.equals("java.lang.StringBuilder") || EXCEPTIONS.contains(made));
        allowed(2, "a class without a name", tree.getClassBody() == null);
        return super.visitNewClass(tree, unused);
    }

    @Override
    public Void visitThrow(ThrowTree tree, Void unused) {
        boolean isNew = tree.getExpression() instanceof NewClassTree;
        allowed(6, "what is thrown", isNew);
        if (isNew) {
            List<? extends ExpressionTree> arguments = ((NewClassTree) tree.getExpression()).getArguments();
            allowed(6, "the text of an exception",
                    arguments.isEmpty() || arguments.size() == 1 && arguments.get(0) instanceof LiteralTree);
        }
        for (Tree around : getCurrentPath()) {
            if (around instanceof MethodTree) {
                allowed(6, "a throw in a constructor", ((MethodTree) around).getReturnType() != null);
            }
        }
        return super.visitThrow(tree, unused);
    }

    @Override
    public Void visitBinary(BinaryTree tree, Void unused) {
        String type = trees.getTypeMirror(getCurrentPath()).toString();
        allowed(10, "a text joined by +", !type.equals("java.lang.String"));
        if (tree.getKind() == Tree.Kind.EQUAL_TO || tree.getKind() == Tree.Kind.NOT_EQUAL_TO) {
            String left = trees.getTypeMirror(new TreePath(getCurrentPath(), tree.getLeftOperand())).toString();
            allowed(6, "texts compared by ==", !left.equals("java.lang.String"));
        }
        return super.visitBinary(tree, unused);
    }

    @Override
    public Void visitCompoundAssignment(CompoundAssignmentTree tree, Void unused) {
        allowed(10, "a text joined by +=", !trees.getTypeMirror(getCurrentPath()).toString().equals("java.lang.String"));
        return super.visitCompoundAssignment(tree, unused);
    }

    @Override
    public Void visitBlock(BlockTree tree, Void unused) {
        allowed(5, "a static block", !tree.isStatic());
        return super.visitBlock(tree, unused);
    }

    @Override
    public Void visitLambdaExpression(LambdaExpressionTree tree, Void unused) {
        allowed(2, "a lambda", false);
        return super.visitLambdaExpression(tree, unused);
    }

    @Override
    public Void visitMemberReference(MemberReferenceTree tree, Void unused) {
        allowed(2, "a method reference", false);
        return super.visitMemberReference(tree, unused);
    }

    @Override
    public Void visitTry(TryTree tree, Void unused) {
        allowed(6, "finally, or a try with resources", tree.getFinallyBlock() == null && tree.getResources().isEmpty());
        return super.visitTry(tree, unused);
    }

    @Override
    public Void visitCatch(CatchTree tree, Void unused) {
        allowed(6, "a catch: the class needs none, and must catch nothing that the machine throws", false);
        return super.visitCatch(tree, unused);
    }

    @Override
    public Void visitSynchronized(SynchronizedTree tree, Void unused) {
        allowed(6, "synchronized", false);
        return super.visitSynchronized(tree, unused);
    }

    @Override
    public Void visitAssert(AssertTree tree, Void unused) {
        allowed(6, "assert", false);
        return super.visitAssert(tree, unused);
    }
}
