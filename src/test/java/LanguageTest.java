import com.sun.source.tree.AssertTree;
import com.sun.source.tree.BinaryTree;
import com.sun.source.tree.BlockTree;
import com.sun.source.tree.ClassTree;
import com.sun.source.tree.CompilationUnitTree;
import com.sun.source.tree.ImportTree;
import com.sun.source.tree.LambdaExpressionTree;
import com.sun.source.tree.LineMap;
import com.sun.source.tree.LiteralTree;
import com.sun.source.tree.MemberReferenceTree;
import com.sun.source.tree.MethodInvocationTree;
import com.sun.source.tree.MethodTree;
import com.sun.source.tree.NewClassTree;
import com.sun.source.tree.SynchronizedTree;
import com.sun.source.tree.ThrowTree;
import com.sun.source.tree.Tree;
import com.sun.source.tree.TryTree;
import com.sun.source.tree.VariableTree;
import com.sun.source.util.JavacTask;
import com.sun.source.util.SourcePositions;
import com.sun.source.util.TreePathScanner;
import com.sun.source.util.Trees;
import java.io.File;
import java.nio.file.Files;
import java.util.ArrayList;
import java.util.HashMap;
import java.util.HashSet;
import java.util.List;
import java.util.Map;
import java.util.Set;
import java.util.TreeSet;
import javax.lang.model.element.Element;
import javax.lang.model.element.ElementKind;
import javax.lang.model.element.Modifier;
import javax.tools.JavaCompiler;
import javax.tools.StandardJavaFileManager;
import javax.tools.ToolProvider;

/** The source of OneLine against LANGUAGE.md, as far as a program can see it. */
public final class LanguageTest extends TreePathScanner<Void, Void> {
    private static final Set<String> LIBRARY = Set.of(
        "java.lang.String.length", "java.lang.String.charAt", "java.lang.Math.max", "java.lang.Math.min",
        "java.lang.Math.abs", "java.lang.Math.floorMod", "java.lang.Math.floorDiv", "java.lang.Integer.bitCount",
        "java.util.Arrays.fill", "java.util.Arrays.copyOf", "java.lang.System.arraycopy", "java.lang.Object.<init>");
    private static final int DEEPEST = 8;

    private final Trees trees;
    private final SourcePositions positions;
    private final CompilationUnitTree unit;
    private final LineMap lines;
    private final List<String> faults = new ArrayList<>();
    /** Of each method those that it calls. */
    private final Map<Element, Set<Element>> calls = new HashMap<>();
    private final List<Element> classes = new ArrayList<>();
    private Element method;

    private LanguageTest(JavacTask task, CompilationUnitTree unit) {
        trees = Trees.instance(task);
        positions = trees.getSourcePositions();
        this.unit = unit;
        lines = unit.getLineMap();
    }

    public static void main(String[] args) throws Exception {
        File source = new File(System.getProperty("root", "."), "src/main/java/OneLine.java");
        JavaCompiler compiler = ToolProvider.getSystemJavaCompiler();
        StandardJavaFileManager files = compiler.getStandardFileManager(null, null, null);
        JavacTask task = (JavacTask) compiler.getTask(null, files, null, List.of("-proc:none"), null,
            files.getJavaFileObjects(source));
        CompilationUnitTree unit = task.parse().iterator().next();
        task.analyze();
        LanguageTest test = new LanguageTest(task, unit);
        test.scan(unit, null);
        test.checkDepth();
        test.checkNames();
        test.checkText(Files.readString(source.toPath()));
        if (test.classes.size() > 12) {
            test.faults.add("rule 11: " + test.classes.size() + " classes");
        }
        test.faults.forEach(System.out::println);
        System.out.println(test.faults.isEmpty() ? "the source keeps to the language" : test.faults.size() + " faults");
        System.exit(test.faults.isEmpty() ? 0 : 1);
    }

    private void fault(int rule, Tree tree, String what) {
        long line = lines.getLineNumber(positions.getStartPosition(unit, tree));
        faults.add("rule " + rule + ", line " + line + ": " + what);
    }

    private void checkText(String text) {
        for (int i = 0; i < text.length(); i++) {
            char sign = text.charAt(i);
            if (sign > 126 || sign < 32 && sign != '\n') {
                faults.add("a sign outside ASCII at " + i);
            }
        }
    }

    @Override
    public Void visitImport(ImportTree tree, Void none) {
        if (!Set.of("java.util.Arrays", "java.util.List", "java.util.ArrayList").contains(tree.getQualifiedIdentifier().toString())) {
            fault(4, tree, "import " + tree.getQualifiedIdentifier());
        }
        return super.visitImport(tree, none);
    }

    @Override
    public Void visitClass(ClassTree tree, Void none) {
        Element element = trees.getElement(getCurrentPath());
        classes.add(element);
        Tree.Kind around = getCurrentPath().getParentPath().getLeaf().getKind();
        if (around != Tree.Kind.COMPILATION_UNIT
            && (around != Tree.Kind.CLASS || !element.getModifiers().contains(Modifier.STATIC))) {
            fault(2, tree, "a class that is not static inside");
        }
        int fields = 0;
        for (Tree member : tree.getMembers()) {
            if (member instanceof BlockTree) {
                fault(5, member, "an initialiser block");
            }
            if (member instanceof VariableTree field) {
                boolean fixed = field.getModifiers().getFlags().contains(Modifier.STATIC);
                fields += fixed ? 0 : 1;
                if (fixed && (!field.getModifiers().getFlags().contains(Modifier.FINAL)
                    || !Set.of("int", "long", "boolean", "char", "String").contains(field.getType().toString()))) {
                    fault(5, member, "a static field " + field.getName());
                }
            }
        }
        if (fields > 20) {
            fault(11, tree, fields + " fields");
        }
        return super.visitClass(tree, none);
    }

    @Override
    public Void visitMethod(MethodTree tree, Void none) {
        Element outer = method;
        method = trees.getElement(getCurrentPath());
        calls.computeIfAbsent(method, m -> new HashSet<>());
        if (tree.getParameters().size() > 7) {
            fault(11, tree, "too many parameters");
        }
        long from = lines.getLineNumber(positions.getStartPosition(unit, tree));
        long to = lines.getLineNumber(positions.getEndPosition(unit, tree));
        if (to - from > 59) {
            fault(11, tree, "a method of " + (to - from + 1) + " lines");
        }
        super.visitMethod(tree, none);
        method = outer;
        return null;
    }

    @Override
    public Void visitMethodInvocation(MethodInvocationTree tree, Void none) {
        Element target = trees.getElement(getCurrentPath());
        called(tree, target);
        if (target.getEnclosingElement().toString().equals("java.util.Arrays") && target.toString().contains("boolean")) {
            fault(4, tree, "Arrays over an array that is none of numbers");
        }
        return super.visitMethodInvocation(tree, none);
    }

    /** No method that is not public bears the name of a public one. */
    private void checkNames() {
        Set<String> open = new HashSet<>();
        for (Element each : calls.keySet()) {
            if (each.getModifiers().contains(Modifier.PUBLIC) && each.getKind() == ElementKind.METHOD) {
                open.add(each.getSimpleName().toString());
            }
        }
        for (Element each : calls.keySet()) {
            if (!each.getModifiers().contains(Modifier.PUBLIC) && open.contains(each.getSimpleName().toString())) {
                faults.add("rule 1: a second method " + each);
            }
        }
    }

    @Override
    public Void visitNewClass(NewClassTree tree, Void none) {
        if (tree.getClassBody() != null) {
            fault(2, tree, "an anonymous class");
        }
        called(tree, trees.getElement(getCurrentPath()));
        return super.visitNewClass(tree, none);
    }

    private void called(Tree tree, Element target) {
        if (classes.contains(target.getEnclosingElement())
            || target.getEnclosingElement().toString().startsWith("OneLine")) {
            if (method != null) {
                calls.get(method).add(target);
            }
            return;
        }
        String name = target.getEnclosingElement() + "." + (target.getKind() == ElementKind.CONSTRUCTOR
            ? "<init>" : target.getSimpleName().toString());
        if (!LIBRARY.contains(name)) {
            fault(4, tree, name);
        }
    }

    @Override
    public Void visitBinary(BinaryTree tree, Void none) {
        String left = String.valueOf(trees.getTypeMirror(new com.sun.source.util.TreePath(getCurrentPath(), tree.getLeftOperand())));
        String right = String.valueOf(trees.getTypeMirror(new com.sun.source.util.TreePath(getCurrentPath(), tree.getRightOperand())));
        if (left.endsWith("String") || right.endsWith("String")) {
            fault(10, tree, "texts joined or held against each other");
        }
        return super.visitBinary(tree, none);
    }

    @Override
    public Void visitLiteral(LiteralTree tree, Void none) {
        if (tree.getValue() instanceof Double || tree.getValue() instanceof Float) {
            fault(3, tree, "a broken number");
        }
        return super.visitLiteral(tree, none);
    }

    @Override
    public Void visitThrow(ThrowTree tree, Void none) {
        fault(6, tree, "throw");
        return super.visitThrow(tree, none);
    }

    @Override
    public Void visitTry(TryTree tree, Void none) {
        fault(6, tree, "try");
        return super.visitTry(tree, none);
    }

    @Override
    public Void visitSynchronized(SynchronizedTree tree, Void none) {
        fault(6, tree, "synchronized");
        return super.visitSynchronized(tree, none);
    }

    @Override
    public Void visitAssert(AssertTree tree, Void none) {
        fault(6, tree, "assert");
        return super.visitAssert(tree, none);
    }

    @Override
    public Void visitLambdaExpression(LambdaExpressionTree tree, Void none) {
        fault(2, tree, "a lambda");
        return super.visitLambdaExpression(tree, none);
    }

    @Override
    public Void visitMemberReference(MemberReferenceTree tree, Void none) {
        fault(2, tree, "a method reference");
        return super.visitMemberReference(tree, none);
    }

    /** Calls that are no recursion go at most eight deep: those that call one another count once. */
    private void checkDepth() {
        Map<Element, Set<Element>> reached = new HashMap<>();
        for (Element from : calls.keySet()) {
            Set<Element> all = new HashSet<>();
            reach(from, all);
            reached.put(from, all);
        }
        Set<String> names = new TreeSet<>();
        int deepest = 0;
        for (Element from : calls.keySet()) {
            int depth = depth(from, reached, new HashMap<>());
            deepest = Math.max(deepest, depth);
            if (depth > DEEPEST) {
                names.add(from + " " + depth);
            }
        }
        System.out.println("calls go " + deepest + " deep");
        names.forEach(name -> faults.add("rule 11: deep calls from " + name));
    }

    private void reach(Element from, Set<Element> all) {
        for (Element to : calls.getOrDefault(from, Set.of())) {
            if (all.add(to)) {
                reach(to, all);
            }
        }
    }

    private int depth(Element from, Map<Element, Set<Element>> reached, Map<Element, Integer> known) {
        if (known.containsKey(from)) {
            return known.get(from);
        }
        Set<Element> ring = new HashSet<>(Set.of(from));
        for (Element to : reached.getOrDefault(from, Set.of())) {
            if (reached.getOrDefault(to, Set.of()).contains(from)) {
                ring.add(to);
            }
        }
        int below = 0;
        for (Element member : ring) {
            for (Element to : calls.getOrDefault(member, Set.of())) {
                if (!ring.contains(to)) {
                    below = Math.max(below, depth(to, reached, known));
                }
            }
        }
        known.put(from, below + 1);
        return below + 1;
    }
}
