import com.sun.source.tree.AssertTree;
import com.sun.source.tree.BlockTree;
import com.sun.source.tree.ClassTree;
import com.sun.source.tree.CompilationUnitTree;
import com.sun.source.tree.DoWhileLoopTree;
import com.sun.source.tree.LambdaExpressionTree;
import com.sun.source.tree.LineMap;
import com.sun.source.tree.MemberReferenceTree;
import com.sun.source.tree.MethodInvocationTree;
import com.sun.source.tree.MethodTree;
import com.sun.source.tree.NewClassTree;
import com.sun.source.tree.SynchronizedTree;
import com.sun.source.tree.ThrowTree;
import com.sun.source.tree.Tree;
import com.sun.source.tree.TryTree;
import com.sun.source.tree.TypeCastTree;
import com.sun.source.tree.VariableTree;
import com.sun.source.tree.WhileLoopTree;
import com.sun.source.util.JavacTask;
import com.sun.source.util.SourcePositions;
import com.sun.source.util.TreePath;
import com.sun.source.util.TreePathScanner;
import com.sun.source.util.Trees;
import java.io.File;
import java.util.ArrayList;
import java.util.HashMap;
import java.util.HashSet;
import java.util.LinkedHashSet;
import java.util.List;
import java.util.Map;
import java.util.Set;
import javax.lang.model.element.Element;
import javax.lang.model.element.ExecutableElement;
import javax.lang.model.element.Modifier;
import javax.lang.model.type.TypeKind;
import javax.tools.JavaCompiler;
import javax.tools.StandardJavaFileManager;
import javax.tools.ToolProvider;

/** What of ../shared/LANGUAGE.md can be counted, or looked for by name, in the source. */
public final class LanguageTest extends TreePathScanner<Void, Void> {
    private static final Set<String> FACE = Set.of("feed", "end", "grammar", "tree", "fault", "symbol", "graph", "rule",
            "test", "node", "own", "demand", "value", "order", "about");
    private static final int DEEPEST = 8;

    private final Trees trees;
    private final SourcePositions positions;
    private final CompilationUnitTree unit;
    private final LineMap lines;
    private final Map<Element, Set<Element>> calls = new HashMap<>();
    private final Set<Element> own = new LinkedHashSet<>();
    private Element caller = null;
    private int classes = 0;
    private int loops = 0;
    private int wrong = 0;

    private LanguageTest(JavacTask task, CompilationUnitTree unit) {
        trees = Trees.instance(task);
        positions = trees.getSourcePositions();
        this.unit = unit;
        lines = unit.getLineMap();
    }

    public static void main(String[] args) throws Exception {
        JavaCompiler compiler = ToolProvider.getSystemJavaCompiler();
        StandardJavaFileManager files = compiler.getStandardFileManager(null, null, null);
        JavacTask task = (JavacTask) compiler.getTask(null, files, null, List.of("-proc:none"), null,
                files.getJavaFileObjects(new File("src/main/java/AttributeDesk.java")));
        CompilationUnitTree unit = task.parse().iterator().next();
        task.analyze();
        LanguageTest test = new LanguageTest(task, unit);
        test.scan(unit, null);
        test.wholeFile();
        System.out.println(test.wrong == 0 ? "the language is kept to" : test.wrong + " places are against the language");
        if (test.wrong != 0) {
            System.exit(1);
        }
    }

    private void expect(boolean holds, int rule, Tree at, String what) {
        if (!holds) {
            wrong++;
            System.out.println("rule " + rule + ", line " + line(at) + ": " + what);
        }
    }

    private long line(Tree at) {
        return lines.getLineNumber(positions.getStartPosition(unit, at));
    }

    private void wholeFile() {
        expect(unit.getPackageName() == null, 1, unit, "a package line");
        expect(unit.getImports().isEmpty(), 4, unit, "an import: look whether rule 4 lists it");
        expect(classes <= 12, 11, unit, classes + " classes");
        expect(loops == 0, 9, unit, loops + " loops without a counter");
        int deepest = 0;
        for (Element method : own) {
            List<Element> way = longestWay(method, new ArrayList<>());
            deepest = Math.max(deepest, way.size());
            expect(way.size() <= DEEPEST, 11, unit, "calls too deep: " + way);
        }
        System.out.println("  " + classes + " classes, calls at most " + deepest + " deep");
    }

    private List<Element> longestWay(Element method, List<Element> open) {
        if (open.contains(method)) {
            expect(false, 8, unit, "recursion: look whether its depth is guarded: " + open);
            return List.of();
        }
        open.add(method);
        List<Element> longest = List.of();
        for (Element called : calls.getOrDefault(method, new HashSet<>())) {
            List<Element> way = longestWay(called, open);
            longest = way.size() > longest.size() ? way : longest;
        }
        open.remove(open.size() - 1);
        List<Element> way = new ArrayList<>(List.of(method));
        way.addAll(longest);
        return way;
    }

    @Override
    public Void visitClass(ClassTree tree, Void nothing) {
        classes++;
        boolean outer = getCurrentPath().getParentPath().getLeaf() instanceof CompilationUnitTree;
        Set<Modifier> flags = tree.getModifiers().getFlags();
        expect(outer || flags.contains(Modifier.STATIC), 2, tree, "a class inside that isn't static");
        expect(outer || !flags.contains(Modifier.PUBLIC), 1, tree, "a public class inside");
        int fields = 0;
        for (Tree member : tree.getMembers()) {
            if (member instanceof VariableTree field) {
                Set<Modifier> of = field.getModifiers().getFlags();
                expect(!of.contains(Modifier.STATIC) || of.contains(Modifier.FINAL), 5, field, "static state");
                boolean isFace = field.getName().contentEquals("NONE");
                expect(!outer || isFace || of.contains(Modifier.PRIVATE), 1, field, "a field that isn't private");
                fields += of.contains(Modifier.STATIC) ? 0 : 1;
            }
            expect(!(member instanceof BlockTree), 5, member, "an initialiser block");
        }
        expect(fields <= 20, 11, tree, fields + " fields in " + tree.getSimpleName());
        return super.visitClass(tree, nothing);
    }

    @Override
    public Void visitMethod(MethodTree tree, Void nothing) {
        Element before = caller;
        caller = trees.getElement(getCurrentPath());
        own.add(caller);
        long length = lines.getLineNumber(positions.getEndPosition(unit, tree)) - line(tree) + 1;
        expect(length <= 60, 11, tree, length + " lines in " + tree.getName());
        expect(tree.getParameters().size() <= 7, 11, tree, "more than seven parameters");
        boolean isOuter = caller.getEnclosingElement().getSimpleName().contentEquals("AttributeDesk");
        boolean isConstructor = tree.getReturnType() == null;
        boolean isFace = FACE.contains(tree.getName().toString());
        Set<Modifier> flags = tree.getModifiers().getFlags();
        expect(isConstructor || flags.contains(Modifier.PUBLIC) == (isOuter && isFace), 1, tree, "public: " + tree.getName());
        expect(isConstructor || isFace == flags.contains(Modifier.PUBLIC), 1, tree, "a name of the face: " + tree.getName());
        expect(!isOuter || isConstructor || isFace || flags.contains(Modifier.PRIVATE), 1, tree, "not private");
        super.visitMethod(tree, nothing);
        caller = before;
        return null;
    }

    @Override
    public Void visitMethodInvocation(MethodInvocationTree tree, Void nothing) {
        noteCall(trees.getElement(getCurrentPath()), tree);
        return super.visitMethodInvocation(tree, nothing);
    }

    private void noteCall(Element called, Tree at) {
        String owner = called.getEnclosingElement().toString();
        if (owner.startsWith("AttributeDesk")) {
            calls.computeIfAbsent(caller, x -> new LinkedHashSet<>()).add(called);
        } else {
            boolean isSuper = called instanceof ExecutableElement && called.getSimpleName().contentEquals("<init>");
            boolean isKnown = owner.equals("java.lang.Math") && !called.getSimpleName().toString().endsWith("Exact");
            expect(isSuper || isKnown, 4, at, "look whether rule 4 lists " + owner + "." + called);
        }
    }

    @Override
    public Void visitNewClass(NewClassTree tree, Void nothing) {
        expect(tree.getClassBody() == null, 2, tree, "an anonymous class");
        if (caller != null) {
            noteCall(trees.getElement(getCurrentPath()), tree);
        }
        return super.visitNewClass(tree, nothing);
    }

    @Override
    public Void visitTypeCast(TypeCastTree tree, Void nothing) {
        TypeKind kind = trees.getTypeMirror(new TreePath(getCurrentPath(), tree.getType())).getKind();
        expect(kind.isPrimitive(), 6, tree, "a cast to a class: look whether a test makes it safe");
        return super.visitTypeCast(tree, nothing);
    }

    @Override
    public Void visitWhileLoop(WhileLoopTree tree, Void nothing) {
        loops++;
        return super.visitWhileLoop(tree, nothing);
    }

    @Override
    public Void visitDoWhileLoop(DoWhileLoopTree tree, Void nothing) {
        loops++;
        return super.visitDoWhileLoop(tree, nothing);
    }

    @Override
    public Void visitThrow(ThrowTree tree, Void nothing) {
        expect(false, 6, tree, "throw");
        return super.visitThrow(tree, nothing);
    }

    @Override
    public Void visitTry(TryTree tree, Void nothing) {
        expect(false, 6, tree, "try");
        return super.visitTry(tree, nothing);
    }

    @Override
    public Void visitSynchronized(SynchronizedTree tree, Void nothing) {
        expect(false, 6, tree, "synchronized");
        return super.visitSynchronized(tree, nothing);
    }

    @Override
    public Void visitAssert(AssertTree tree, Void nothing) {
        expect(false, 6, tree, "assert");
        return super.visitAssert(tree, nothing);
    }

    @Override
    public Void visitLambdaExpression(LambdaExpressionTree tree, Void nothing) {
        expect(false, 2, tree, "a lambda");
        return super.visitLambdaExpression(tree, nothing);
    }

    @Override
    public Void visitMemberReference(MemberReferenceTree tree, Void nothing) {
        expect(false, 2, tree, "a method reference");
        return super.visitMemberReference(tree, nothing);
    }
}
