import com.sun.source.tree.AssertTree;
import com.sun.source.tree.BinaryTree;
import com.sun.source.tree.BlockTree;
import com.sun.source.tree.ClassTree;
import com.sun.source.tree.CompilationUnitTree;
import com.sun.source.tree.DoWhileLoopTree;
import com.sun.source.tree.EnhancedForLoopTree;
import com.sun.source.tree.ExpressionTree;
import com.sun.source.tree.ForLoopTree;
import com.sun.source.tree.ImportTree;
import com.sun.source.tree.InstanceOfTree;
import com.sun.source.tree.LambdaExpressionTree;
import com.sun.source.tree.MemberReferenceTree;
import com.sun.source.tree.MethodInvocationTree;
import com.sun.source.tree.MethodTree;
import com.sun.source.tree.NewArrayTree;
import com.sun.source.tree.NewClassTree;
import com.sun.source.tree.SynchronizedTree;
import com.sun.source.tree.ThrowTree;
import com.sun.source.tree.Tree;
import com.sun.source.tree.TryTree;
import com.sun.source.tree.TypeCastTree;
import com.sun.source.tree.VariableTree;
import com.sun.source.tree.WhileLoopTree;
import com.sun.source.util.JavacTask;
import com.sun.source.util.TreePathScanner;
import com.sun.source.util.TreeScanner;
import com.sun.source.util.Trees;
import java.io.File;
import java.io.IOException;
import java.util.HashMap;
import java.util.HashSet;
import java.util.List;
import java.util.Map;
import java.util.Set;
import java.util.TreeSet;
import javax.lang.model.element.Element;
import javax.lang.model.element.ElementKind;
import javax.lang.model.element.Modifier;
import javax.tools.JavaCompiler;
import javax.tools.JavaFileObject;
import javax.tools.StandardJavaFileManager;
import javax.tools.ToolProvider;

/** The rules of LANGUAGE.md, by their numbers, as far as the compiler's tree of the program shows them. */
public final class LanguageTest extends TreePathScanner<Void, Void> {
    private static final String PROGRAM = "src/main/java/SteppedCache.java";
    /** What the program uses of the library; the rules list more. */
    private static final Set<String> LIBRARY = Set.of("java.util.Arrays.fill");
    private static final Set<String> SIMPLE_TYPES = Set.of("int", "boolean", "long", "int[]", "boolean[]", "long[]", "void");

    private final CompilationUnitTree unit;
    private final Trees trees;
    private final Set<String> ownClasses = new TreeSet<>();
    private final Map<Element, Set<Element>> calls = new HashMap<>();
    private Element method;

    private LanguageTest(CompilationUnitTree unit, Trees trees) {
        this.unit = unit;
        this.trees = trees;
    }

    public static void main(String[] args) throws IOException {
        JavaCompiler compiler = ToolProvider.getSystemJavaCompiler();
        try (StandardJavaFileManager files = compiler.getStandardFileManager(null, null, null)) {
            Iterable<? extends JavaFileObject> program = files.getJavaFileObjects(new File(PROGRAM));
            JavacTask task = (JavacTask) compiler.getTask(null, files, null, List.of("--release", "17"), null, program);
            CompilationUnitTree unit = task.parse().iterator().next();
            task.analyze();
            new LanguageTest(unit, Trees.instance(task)).check();
        }
        Check.end();
    }

    private void check() {
        new TreeScanner<Void, Void>() {
            @Override
            public Void visitClass(ClassTree tree, Void none) {
                ownClasses.add(tree.getSimpleName().toString());
                return super.visitClass(tree, none);
            }
        }.scan(unit, null);
        Check.yes("one class at the top", unit.getTypeDecls().size() == 1);
        Check.yes("no package line", unit.getPackage() == null);
        Check.yes("rule 11: at most twelve classes", ownClasses.size() <= 12);
        scan(unit, null);
        for (Element from : calls.keySet()) {
            Check.yes("rule 8: no recursion, rule 11: calls at most eight deep, from " + from, depth(from, new HashSet<>()) <= 8);
        }
    }

    private int depth(Element from, Set<Element> open) {
        if (!open.add(from)) {
            return 1000;
        }
        int deepest = 0;
        for (Element to : calls.getOrDefault(from, Set.of())) {
            deepest = Math.max(deepest, depth(to, open));
        }
        open.remove(from);
        return deepest + 1;
    }

    private long line(Tree tree) {
        return unit.getLineMap().getLineNumber(trees.getSourcePositions().getStartPosition(unit, tree));
    }

    private long lastLine(Tree tree) {
        return unit.getLineMap().getLineNumber(trees.getSourcePositions().getEndPosition(unit, tree));
    }

    private void must(String rule, Tree tree, boolean kept) {
        Check.yes("rule " + rule + ", line " + line(tree), kept);
    }

    private Element element() {
        return trees.getElement(getCurrentPath());
    }

    @Override
    public Void visitImport(ImportTree tree, Void none) {
        String name = tree.getQualifiedIdentifier().toString();
        must("4", tree, Set.of("java.util.Arrays", "java.util.ArrayList", "java.util.List").contains(name));
        return null;
    }

    @Override
    public Void visitClass(ClassTree tree, Void none) {
        Set<Modifier> flags = tree.getModifiers().getFlags();
        boolean outer = getCurrentPath().getParentPath().getLeaf() == unit;
        must("1 and 2", tree, outer ? flags.contains(Modifier.PUBLIC) && flags.contains(Modifier.FINAL)
                : flags.contains(Modifier.STATIC) && !flags.contains(Modifier.PUBLIC) && !flags.contains(Modifier.PROTECTED));
        must("2: a class inside stands in a class", tree, outer || getCurrentPath().getParentPath().getLeaf() instanceof ClassTree);
        int fields = 0;
        for (Tree member : tree.getMembers()) {
            must("5: no initialiser block", member, !(member instanceof BlockTree));
            if (member instanceof VariableTree field) {
                fields += field.getModifiers().getFlags().contains(Modifier.STATIC) ? 0 : 1;
            }
        }
        must("11: at most twenty fields", tree, fields <= 20);
        return super.visitClass(tree, none);
    }

    @Override
    public Void visitVariable(VariableTree tree, Void none) {
        must("3: type " + tree.getType(), tree, isAllowed(tree.getType().toString()));
        Element field = element();
        if (field.getKind() == ElementKind.FIELD && field.getModifiers().contains(Modifier.STATIC)) {
            must("5", tree, field.getModifiers().contains(Modifier.FINAL)
                    && ((javax.lang.model.element.VariableElement) field).getConstantValue() != null);
        }
        return super.visitVariable(tree, none);
    }

    private boolean isAllowed(String type) {
        return SIMPLE_TYPES.contains(type) || ownClasses.contains(type.replace("[]", "")) && !type.contains("[][]");
    }

    @Override
    public Void visitMethod(MethodTree tree, Void none) {
        method = element();
        calls.putIfAbsent(method, new HashSet<>());
        must("6: no throws", tree, tree.getThrows().isEmpty());
        must("6: no equals, hashCode or toString", tree,
                !Set.of("equals", "hashCode", "toString", "finalize").contains(tree.getName().toString()));
        must("11: at most seven parameters", tree, tree.getParameters().size() <= 7);
        must("11: at most sixty lines", tree, lastLine(tree) - line(tree) < 60);
        must("3", tree, tree.getReturnType() == null || isAllowed(tree.getReturnType().toString()));
        must("6: not synchronized or native", tree, !method.getModifiers().contains(Modifier.SYNCHRONIZED)
                && !method.getModifiers().contains(Modifier.NATIVE));
        return super.visitMethod(tree, none);
    }

    @Override
    public Void visitMethodInvocation(MethodInvocationTree tree, Void none) {
        Element called = element();
        Element owner = called.getEnclosingElement();
        if (ownClasses.contains(owner.getSimpleName().toString())) {
            calls.get(method).add(called);
        } else {
            String name = owner + "." + called.getSimpleName();
            must("4: " + name, tree, LIBRARY.contains(name) || name.equals("java.lang.Object.<init>"));
        }
        return super.visitMethodInvocation(tree, none);
    }

    @Override
    public Void visitNewClass(NewClassTree tree, Void none) {
        must("2: no anonymous class", tree, tree.getClassBody() == null);
        must("3: new " + tree.getIdentifier(), tree, ownClasses.contains(tree.getIdentifier().toString()));
        inConstructor(tree);
        calls.get(method).add(element());
        return super.visitNewClass(tree, none);
    }

    @Override
    public Void visitNewArray(NewArrayTree tree, Void none) {
        must("3: one dimension", tree, tree.getDimensions().size() == 1);
        inConstructor(tree);
        return super.visitNewArray(tree, none);
    }

    /** Stricter than the rule: no call makes an object, so that what a run makes does not grow with its calls. */
    private void inConstructor(Tree tree) {
        must("12: new in a constructor", tree, method != null && method.getKind() == ElementKind.CONSTRUCTOR);
    }

    /** Stricter than the rule: every loop counts up to a bound. */
    private void counts(Tree loop, ExpressionTree condition) {
        boolean[] compared = {false};
        new TreeScanner<Void, Void>() {
            @Override
            public Void visitBinary(BinaryTree tree, Void none) {
                compared[0] |= tree.getKind() == Tree.Kind.LESS_THAN || tree.getKind() == Tree.Kind.GREATER_THAN;
                return super.visitBinary(tree, none);
            }
        }.scan(condition, null);
        must("9: a bound in sight", loop, compared[0]);
    }

    @Override
    public Void visitForLoop(ForLoopTree tree, Void none) {
        counts(tree, tree.getCondition());
        return super.visitForLoop(tree, none);
    }

    @Override
    public Void visitWhileLoop(WhileLoopTree tree, Void none) {
        counts(tree, tree.getCondition());
        return super.visitWhileLoop(tree, none);
    }

    @Override
    public Void visitDoWhileLoop(DoWhileLoopTree tree, Void none) {
        counts(tree, tree.getCondition());
        return super.visitDoWhileLoop(tree, none);
    }

    @Override
    public Void visitEnhancedForLoop(EnhancedForLoopTree tree, Void none) {
        must("4: over an array", tree, !tree.getExpression().toString().contains("("));
        return super.visitEnhancedForLoop(tree, none);
    }

    private Void forbidden(String rule, Tree tree) {
        must(rule, tree, false);
        return null;
    }

    @Override
    public Void visitLambdaExpression(LambdaExpressionTree tree, Void none) {
        return forbidden("2: no lambda", tree);
    }

    @Override
    public Void visitMemberReference(MemberReferenceTree tree, Void none) {
        return forbidden("2: no method reference", tree);
    }

    @Override
    public Void visitThrow(ThrowTree tree, Void none) {
        return forbidden("6: no throw", tree);
    }

    @Override
    public Void visitTry(TryTree tree, Void none) {
        return forbidden("6: no try", tree);
    }

    @Override
    public Void visitSynchronized(SynchronizedTree tree, Void none) {
        return forbidden("6: no synchronized", tree);
    }

    @Override
    public Void visitAssert(AssertTree tree, Void none) {
        return forbidden("6: no assert", tree);
    }

    @Override
    public Void visitInstanceOf(InstanceOfTree tree, Void none) {
        return forbidden("6: the program needs no instanceof", tree);
    }

    @Override
    public Void visitTypeCast(TypeCastTree tree, Void none) {
        return forbidden("6: the program needs no cast", tree);
    }
}
