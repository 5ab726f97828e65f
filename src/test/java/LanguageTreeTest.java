import com.sun.source.tree.AssertTree;
import com.sun.source.tree.BinaryTree;
import com.sun.source.tree.ClassTree;
import com.sun.source.tree.CompilationUnitTree;
import com.sun.source.tree.CompoundAssignmentTree;
import com.sun.source.tree.DoWhileLoopTree;
import com.sun.source.tree.EnhancedForLoopTree;
import com.sun.source.tree.ForLoopTree;
import com.sun.source.tree.LambdaExpressionTree;
import com.sun.source.tree.MemberReferenceTree;
import com.sun.source.tree.MethodInvocationTree;
import com.sun.source.tree.MethodTree;
import com.sun.source.tree.NewArrayTree;
import com.sun.source.tree.NewClassTree;
import com.sun.source.tree.SynchronizedTree;
import com.sun.source.tree.ThrowTree;
import com.sun.source.tree.Tree;
import com.sun.source.tree.TryTree;
import com.sun.source.tree.TypeCastTree;
import com.sun.source.tree.VariableTree;
import com.sun.source.tree.WhileLoopTree;
import com.sun.source.util.JavacTask;
import com.sun.source.util.TreePath;
import com.sun.source.util.TreePathScanner;
import com.sun.source.util.Trees;
import java.io.File;
import java.io.IOException;
import java.util.HashMap;
import java.util.HashSet;
import java.util.List;
import java.util.Map;
import java.util.Set;
import java.util.TreeMap;
import java.util.TreeSet;
import javax.lang.model.element.Element;
import javax.lang.model.element.ElementKind;
import javax.lang.model.element.ExecutableElement;
import javax.lang.model.element.Modifier;
import javax.lang.model.type.TypeMirror;
import javax.tools.JavaCompiler;
import javax.tools.StandardJavaFileManager;
import javax.tools.ToolProvider;

/** The rules of ../shared/LANGUAGE.md that show in the program as the compiler reads it. */
public final class LanguageTreeTest extends TreePathScanner<Void, Void> {
    private static final Set<String> LIBRARY = Set.of("String.length", "String.charAt", "String.isEmpty", "String.equals",
        "Math.max", "Math.min", "Math.abs", "Math.floorDiv", "Math.floorMod", "Integer.compare", "Integer.bitCount",
        "System.arraycopy", "Arrays.copyOf", "Arrays.copyOfRange", "Arrays.fill");
    private static final Set<String> NUMBERS = Set.of("int", "long", "boolean", "char", "byte", "short");
    private static final int MOST_DEPTH = 8;
    private static final int MOST_LINES = 60;
    private static final Check CHECK = new Check();

    private final Trees trees;
    private final Map<String, Set<String>> calls = new TreeMap<>();
    private final Set<String> publicCalls = new TreeSet<>();
    private final Map<String, Integer> depths = new HashMap<>();
    private String method = "";
    private int loops;

    private LanguageTreeTest(Trees trees) {
        this.trees = trees;
    }

    public static void main(String[] args) throws IOException {
        JavaCompiler compiler = ToolProvider.getSystemJavaCompiler();
        try (StandardJavaFileManager files = compiler.getStandardFileManager(null, null, null)) {
            var source = files.getJavaFileObjects(new File(System.getProperty("source")));
            JavacTask task = (JavacTask) compiler.getTask(null, files, null, List.of("-proc:none"), null, source);
            CompilationUnitTree unit = task.parse().iterator().next();
            task.analyze();
            LanguageTreeTest test = new LanguageTreeTest(Trees.instance(task));
            CHECK.promise("LANGUAGE.md");
            test.scan(unit, null);
            test.checkDepths();
        }
        CHECK.end();
    }

    private void is(String rule, boolean kept) {
        CHECK.due("rule " + rule + " in " + method, kept ? 1 : 0, 1);
    }

    private Element element() {
        return trees.getElement(getCurrentPath());
    }

    private static String nameOf(Element element) {
        return element.getEnclosingElement().getSimpleName() + "." + element.getSimpleName();
    }

    private boolean isOfLibrary(Element element) {
        for (Element at = element; at != null; at = at.getEnclosingElement()) {
            if (at.getKind() == ElementKind.PACKAGE) {
                return at.toString().startsWith("java");
            }
        }
        return false;
    }

    // ---- classes, their members, and types

    @Override
    public Void visitClass(ClassTree tree, Void none) {
        Element made = element();
        boolean isOuter = made.getEnclosingElement().getKind() == ElementKind.PACKAGE;
        boolean isMember = made.getEnclosingElement().getKind().isClass();
        is("2, a static class inside: " + made, isOuter || isMember && made.getModifiers().contains(Modifier.STATIC));
        is("6, no class of others: " + made, tree.getExtendsClause() == null && tree.getImplementsClause().isEmpty());
        for (Element member : made.getEnclosedElements()) {
            boolean isFace = isOuter && member.getModifiers().contains(Modifier.PUBLIC);
            boolean isMade = !isOuter && member.getKind() == ElementKind.CONSTRUCTOR;
            is("1, private: " + member, isFace || isMade || member.getModifiers().contains(Modifier.PRIVATE));
        }
        return super.visitClass(tree, none);
    }

    private static boolean isType(String type) {
        String of = type.endsWith("[]") ? type.substring(0, type.length() - 2) : type;
        return NUMBERS.contains(of) || of.startsWith("HackneyStands.") || type.equals("java.lang.String");
    }

    @Override
    public Void visitVariable(VariableTree tree, Void none) {
        Element variable = element();
        TypeMirror type = variable.asType();
        is("3, the type of " + variable + ", " + type, isType(type.toString()));
        if (variable.getKind() == ElementKind.FIELD && variable.getModifiers().contains(Modifier.STATIC)) {
            is("5, a final constant: " + variable, variable.getModifiers().contains(Modifier.FINAL)
                && !type.toString().startsWith("HackneyStands"));
        }
        return super.visitVariable(tree, none);
    }

    @Override
    public Void visitTypeCast(TypeCastTree tree, Void none) {
        is("3 and 6, a cast among numbers: " + tree, NUMBERS.contains(tree.getType().toString()));
        return super.visitTypeCast(tree, none);
    }

    // ---- methods and what they call

    @Override
    public Void visitMethod(MethodTree tree, Void none) {
        String before = method;
        method = nameOf(element());
        calls.putIfAbsent(method, new TreeSet<>());
        if (element().getModifiers().contains(Modifier.PUBLIC)) {
            publicCalls.add(method);
        }
        is("11, at most seven parameters", tree.getParameters().size() <= 7);
        is("11, some sixty lines", tree.toString().lines().count() <= MOST_LINES);
        super.visitMethod(tree, none);
        method = before;
        return null;
    }

    private void call(Element called) {
        if (isOfLibrary(called)) {
            boolean isOwn = called.getKind() == ElementKind.CONSTRUCTOR && nameOf(called).equals("Object.<init>");
            is("4, of the library: " + nameOf(called), isOwn || LIBRARY.contains(nameOf(called)));
        } else {
            calls.computeIfAbsent(method, name -> new TreeSet<>()).add(nameOf(called));
        }
    }

    @Override
    public Void visitMethodInvocation(MethodInvocationTree tree, Void none) {
        Element called = trees.getElement(new TreePath(getCurrentPath(), tree.getMethodSelect()));
        is("4, what is called: " + tree.getMethodSelect(), called instanceof ExecutableElement);
        call(called);
        return super.visitMethodInvocation(tree, none);
    }

    @Override
    public Void visitNewClass(NewClassTree tree, Void none) {
        is("2, no anonymous class", tree.getClassBody() == null);
        is("12, no object made in a loop", loops == 0);
        call(element());
        return super.visitNewClass(tree, none);
    }

    @Override
    public Void visitNewArray(NewArrayTree tree, Void none) {
        is("12, no array made in a loop", loops == 0);
        is("3, one dimension", tree.getDimensions().size() <= 1);
        return super.visitNewArray(tree, none);
    }

    /** The deepest row of calls from a method on; what calls itself again is of one depth. */
    private int depthOf(String from) {
        Integer known = depths.get(from);
        if (known != null) {
            return known;
        }
        depths.put(from, 0);
        int deepest = 0;
        for (String called : calls.getOrDefault(from, Set.of())) {
            deepest = Math.max(deepest, depthOf(called) + (isReached(called, from, new HashSet<>()) ? 0 : 1));
        }
        depths.put(from, deepest);
        return deepest;
    }

    private boolean isReached(String from, String to, Set<String> seen) {
        if (from.equals(to)) {
            return true;
        }
        for (String called : calls.getOrDefault(from, Set.of())) {
            if (seen.add(called) && isReached(called, to, seen)) {
                return true;
            }
        }
        return false;
    }

    private void checkDepths() {
        for (String from : publicCalls) {
            method = from;
            is("11, eight calls deep, not " + (depthOf(from) + 1), depthOf(from) + 1 <= MOST_DEPTH);
        }
        Set<String> again = new TreeSet<>();
        for (String from : calls.keySet()) {
            for (String called : calls.get(from)) {
                if (isReached(called, from, new HashSet<>())) {
                    again.add(from);
                }
            }
        }
        method = "the class";
        Set<String> readers = Set.of("LawReader.readE", "LawReader.readC", "LawReader.readS", "LawReader.readP", "LawReader.readO",
            "LawReader.readBraced");
        is("8, recursion of the law's grammar alone, whose depth is told: " + again, again.equals(readers));
    }

    // ---- loops and words

    private void loop(Tree condition) {
        is("9, a loop with an end", condition != null && !condition.toString().equals("(true)"));
    }

    @Override
    public Void visitForLoop(ForLoopTree tree, Void none) {
        loop(tree.getCondition());
        loops++;
        super.visitForLoop(tree, none);
        loops--;
        return null;
    }

    @Override
    public Void visitWhileLoop(WhileLoopTree tree, Void none) {
        loop(tree.getCondition());
        loops++;
        super.visitWhileLoop(tree, none);
        loops--;
        return null;
    }

    @Override
    public Void visitDoWhileLoop(DoWhileLoopTree tree, Void none) {
        loop(tree.getCondition());
        loops++;
        super.visitDoWhileLoop(tree, none);
        loops--;
        return null;
    }

    @Override
    public Void visitEnhancedForLoop(EnhancedForLoopTree tree, Void none) {
        loops++;
        super.visitEnhancedForLoop(tree, none);
        loops--;
        return null;
    }

    @Override
    public Void visitBinary(BinaryTree tree, Void none) {
        boolean isText = trees.getTypeMirror(getCurrentPath()).toString().equals("java.lang.String");
        is("10, no texts joined by +: " + tree, !isText);
        return super.visitBinary(tree, none);
    }

    @Override
    public Void visitCompoundAssignment(CompoundAssignmentTree tree, Void none) {
        boolean isText = trees.getTypeMirror(getCurrentPath()).toString().equals("java.lang.String");
        is("10, no texts joined by +=: " + tree, !isText);
        return super.visitCompoundAssignment(tree, none);
    }

    @Override
    public Void visitLambdaExpression(LambdaExpressionTree tree, Void none) {
        is("2, no lambda", false);
        return super.visitLambdaExpression(tree, none);
    }

    @Override
    public Void visitMemberReference(MemberReferenceTree tree, Void none) {
        is("2, no method reference", false);
        return super.visitMemberReference(tree, none);
    }

    @Override
    public Void visitThrow(ThrowTree tree, Void none) {
        is("6, no throw", false);
        return super.visitThrow(tree, none);
    }

    @Override
    public Void visitTry(TryTree tree, Void none) {
        is("6, no try", false);
        return super.visitTry(tree, none);
    }

    @Override
    public Void visitSynchronized(SynchronizedTree tree, Void none) {
        is("6, no synchronized", false);
        return super.visitSynchronized(tree, none);
    }

    @Override
    public Void visitAssert(AssertTree tree, Void none) {
        is("6, no assert", false);
        return super.visitAssert(tree, none);
    }
}
