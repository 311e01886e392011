import com.sun.source.tree.AssertTree;
import com.sun.source.tree.BinaryTree;
import com.sun.source.tree.ClassTree;
import com.sun.source.tree.CompilationUnitTree;
import com.sun.source.tree.LambdaExpressionTree;
import com.sun.source.tree.MemberReferenceTree;
import com.sun.source.tree.MethodInvocationTree;
import com.sun.source.tree.MethodTree;
import com.sun.source.tree.NewClassTree;
import com.sun.source.tree.SynchronizedTree;
import com.sun.source.tree.ThrowTree;
import com.sun.source.tree.Tree;
import com.sun.source.tree.TryTree;
import com.sun.source.tree.VariableTree;
import com.sun.source.util.JavacTask;
import com.sun.source.util.TreePath;
import com.sun.source.util.TreePathScanner;
import com.sun.source.util.Trees;
import java.nio.file.Path;
import java.util.HashMap;
import java.util.HashSet;
import java.util.List;
import java.util.Map;
import java.util.Set;
import java.util.TreeSet;
import javax.lang.model.element.Element;
import javax.lang.model.element.ElementKind;
import javax.lang.model.element.Modifier;
import javax.lang.model.element.TypeElement;
import javax.lang.model.type.TypeMirror;
import javax.tools.JavaCompiler;
import javax.tools.StandardJavaFileManager;
import javax.tools.ToolProvider;

/** The rules of LANGUAGE.md that the compiler's tree of the class can tell. */
public final class FormTest extends TreePathScanner<Void, Element> {
    private static final Path SOURCE = Path.of("src/main/java/AgreedTalks.java");
    private static final int MOST_LINES = 60;
    private static final int MOST_PARAMETERS = 7;
    private static final int MOST_DEEP = 8;
    private static final int MOST_FIELDS = 20;
    /** Rule 4, as far as it can be told by names; of Math, Integer and Long all but the names that end in Exact. */
    private static final Set<String> LIBRARY = Set.of(
        "String.length", "String.charAt", "String.isEmpty", "String.equals", "String.indexOf", "String.substring",
        "String.toCharArray", "StringBuilder.append", "StringBuilder.charAt", "StringBuilder.setCharAt",
        "StringBuilder.setLength", "StringBuilder.deleteCharAt", "StringBuilder.reverse", "StringBuilder.length",
        "StringBuilder.toString", "ArrayList.add", "ArrayList.get", "ArrayList.set", "ArrayList.remove", "ArrayList.size",
        "ArrayList.isEmpty", "ArrayList.clear", "List.add", "List.get", "List.set", "List.remove", "List.size",
        "List.isEmpty", "List.clear", "List.of", "System.arraycopy", "Arrays.copyOf", "Arrays.copyOfRange", "Arrays.fill",
        "Array.clone");
    private static final Set<String> NUMBERS = Set.of("Math", "Integer", "Long");
    private static final Set<String> MADE = Set.of("ArrayList", "StringBuilder", "String");

    private final CompilationUnitTree unit;
    private final Trees trees;
    private final Map<Element, Set<Element>> calls = new HashMap<>();
    private final Map<Element, Integer> depths = new HashMap<>();
    private final Set<Element> open = new HashSet<>();

    private FormTest(CompilationUnitTree unit, Trees trees) {
        this.unit = unit;
        this.trees = trees;
    }

    public static void main(String[] args) throws Exception {
        JavaCompiler compiler = ToolProvider.getSystemJavaCompiler();
        try (StandardJavaFileManager files = compiler.getStandardFileManager(null, null, null)) {
            List<String> options = List.of("--release", "17", "-proc:none");
            JavacTask task = (JavacTask) compiler.getTask(null, files, null, options, null, files.getJavaFileObjects(SOURCE));
            Iterable<? extends CompilationUnitTree> units = task.parse();
            task.analyze();
            for (CompilationUnitTree unit : units) {
                FormTest form = new FormTest(unit, Trees.instance(task));
                Talk.due("classes beside one another", unit.getTypeDecls().size(), 1);
                form.scan(unit, null);
                form.depths();
            }
        }
        Talk.close("FormTest");
    }

    private static void holds(String rule, boolean isSo) {
        Talk.due(rule, isSo ? 1 : 0, 1);
    }

    private void never(String what, Tree tree) {
        long line = unit.getLineMap().getLineNumber(start(tree));
        Talk.due("rules 2 and 6: no " + what + " in line " + line, 1, 0);
    }

    private long start(Tree tree) {
        return trees.getSourcePositions().getStartPosition(unit, tree);
    }

    private Element element() {
        return trees.getElement(getCurrentPath());
    }

    private String typeOf(Tree tree) {
        TypeMirror type = trees.getTypeMirror(new TreePath(getCurrentPath(), tree));
        return type == null ? "" : type.toString();
    }

    private static boolean isOwn(Element owner) {
        return owner.toString().startsWith("AgreedTalks");
    }

    @Override
    public Void visitClass(ClassTree tree, Element method) {
        Element type = element();
        boolean isOuter = type.getSimpleName().contentEquals("AgreedTalks");
        holds("rule 2: " + type + " is no local or anonymous class", method == null && type.getSimpleName().length() > 0);
        holds("rule 2: " + type + " is static", isOuter || type.getModifiers().contains(Modifier.STATIC));
        int fields = 0;
        for (Tree member : tree.getMembers()) {
            holds("rule 5: no block in " + type, member.getKind() != Tree.Kind.BLOCK);
            if (member instanceof VariableTree field && !field.getModifiers().getFlags().contains(Modifier.STATIC)) {
                fields++;
            }
        }
        holds("rule 11: " + type + " has " + fields + " fields", fields <= MOST_FIELDS);
        return super.visitClass(tree, method);
    }

    @Override
    public Void visitMethod(MethodTree tree, Element method) {
        Element here = element();
        calls.put(here, new HashSet<>());
        long first = unit.getLineMap().getLineNumber(start(tree));
        long last = first;
        if (trees.getSourcePositions().getEndPosition(unit, tree) >= 0) {
            last = unit.getLineMap().getLineNumber(trees.getSourcePositions().getEndPosition(unit, tree));
        }
        holds("rule 11: " + here + " has " + (last - first + 1) + " lines", last - first < MOST_LINES);
        holds("rule 11: parameters of " + here, tree.getParameters().size() <= MOST_PARAMETERS);
        return super.visitMethod(tree, here);
    }

    @Override
    public Void visitVariable(VariableTree tree, Element method) {
        Element here = element();
        if (here.getKind() == ElementKind.FIELD && here.getModifiers().contains(Modifier.STATIC)) {
            holds("rule 5: " + here + " is final", here.getModifiers().contains(Modifier.FINAL));
            boolean isPlain = Set.of("int", "long", "boolean", "char", "java.lang.String", "int[]", "long[]", "char[]", "byte[]")
                .contains(here.asType().toString());
            holds("rule 5: the type of " + here, isPlain);
        }
        return super.visitVariable(tree, method);
    }

    @Override
    public Void visitMethodInvocation(MethodInvocationTree tree, Element method) {
        Element called = element();
        Element owner = called.getEnclosingElement();
        String name = owner.getSimpleName() + "." + called.getSimpleName();
        if (isOwn(owner)) {
            calls.get(method).add(called);
        } else if (called.getSimpleName().contentEquals("<init>")) {
            holds("rule 2: nothing but Object is extended", owner.toString().equals("java.lang.Object"));
        } else if (NUMBERS.contains(owner.getSimpleName().toString())) {
            holds("rule 4: " + name, !name.endsWith("Exact"));
        } else {
            holds("rule 4: " + name, LIBRARY.contains(name));
        }
        return super.visitMethodInvocation(tree, method);
    }

    @Override
    public Void visitNewClass(NewClassTree tree, Element method) {
        Element made = element();
        Element type = made.getEnclosingElement();
        holds("rule 4: new " + type, isOwn(type) || MADE.contains(type.getSimpleName().toString()));
        holds("rule 2: no class without a name", tree.getClassBody() == null && type instanceof TypeElement);
        if (isOwn(type) && method != null) {
            calls.get(method).add(made);
        }
        return super.visitNewClass(tree, method);
    }

    @Override
    public Void visitBinary(BinaryTree tree, Element method) {
        String left = typeOf(tree.getLeftOperand());
        String right = typeOf(tree.getRightOperand());
        boolean isText = left.equals("java.lang.String") || right.equals("java.lang.String");
        boolean isBoxed = left.equals("java.lang.Integer") && right.equals("java.lang.Integer");
        holds("rules 6 and 10: " + tree, !isText && !isBoxed);
        return super.visitBinary(tree, method);
    }

    @Override
    public Void visitLambdaExpression(LambdaExpressionTree tree, Element method) {
        never("lambda", tree);
        return null;
    }

    @Override
    public Void visitMemberReference(MemberReferenceTree tree, Element method) {
        never("method reference", tree);
        return null;
    }

    @Override
    public Void visitThrow(ThrowTree tree, Element method) {
        never("throw", tree);
        return null;
    }

    @Override
    public Void visitTry(TryTree tree, Element method) {
        never("try", tree);
        return null;
    }

    @Override
    public Void visitSynchronized(SynchronizedTree tree, Element method) {
        never("synchronized", tree);
        return null;
    }

    @Override
    public Void visitAssert(AssertTree tree, Element method) {
        never("assert", tree);
        return null;
    }

    private void depths() {
        Set<String> tooDeep = new TreeSet<>();
        for (Element method : calls.keySet()) {
            if (depth(method) > MOST_DEEP) {
                tooDeep.add(method + " is " + depth(method) + " deep");
            }
        }
        holds("rule 11: calls at most " + MOST_DEEP + " deep " + tooDeep, tooDeep.isEmpty());
    }

    /** How many calls stand open at most, this one too. The class needs no recursion, and has none. */
    private int depth(Element method) {
        if (depths.containsKey(method)) {
            return depths.get(method);
        }
        open.add(method);
        int deepest = 0;
        for (Element called : calls.getOrDefault(method, Set.of())) {
            boolean isRing = open.contains(called);
            holds("rule 8: " + called + " does not come back to itself", !isRing);
            deepest = Math.max(deepest, isRing ? 0 : depth(called));
        }
        open.remove(method);
        depths.put(method, deepest + 1);
        return deepest + 1;
    }
}
