import com.sun.source.tree.BinaryTree;
import com.sun.source.tree.CaseTree;
import com.sun.source.tree.CompilationUnitTree;
import com.sun.source.tree.ConditionalExpressionTree;
import com.sun.source.tree.ExpressionStatementTree;
import com.sun.source.tree.ExpressionTree;
import com.sun.source.tree.ForLoopTree;
import com.sun.source.tree.IfTree;
import com.sun.source.tree.LiteralTree;
import com.sun.source.tree.ReturnTree;
import com.sun.source.tree.Tree;
import com.sun.source.tree.UnaryTree;
import com.sun.source.util.JavacTask;
import com.sun.source.util.SourcePositions;
import com.sun.source.util.TreePath;
import com.sun.source.util.TreePathScanner;
import com.sun.source.util.Trees;
import java.io.ByteArrayOutputStream;
import java.io.IOException;
import java.io.InputStream;
import java.io.OutputStream;
import java.io.PrintStream;
import java.io.StringWriter;
import java.lang.reflect.Method;
import java.net.URI;
import java.nio.file.Files;
import java.nio.file.Path;
import java.util.ArrayList;
import java.util.Arrays;
import java.util.HashMap;
import java.util.List;
import java.util.Map;
import java.util.concurrent.ExecutorService;
import java.util.concurrent.Executors;
import java.util.concurrent.Future;
import javax.lang.model.type.TypeKind;
import javax.tools.FileObject;
import javax.tools.ForwardingJavaFileManager;
import javax.tools.JavaCompiler;
import javax.tools.JavaFileManager;
import javax.tools.JavaFileObject;
import javax.tools.SimpleJavaFileObject;
import javax.tools.ToolProvider;

/**
 * Breaks AttributeDesk in some 3,000 ways, one at a time, and tells which of them SentencesTest doesn't notice. It is
 * no test of its own: it takes minutes, and what it tells must be read, for some breaks change no answer.
 */
public final class Mutants extends TreePathScanner<Void, Void> {
    private static final Path SOURCE = Path.of("src/main/java/AttributeDesk.java");
    private static final int PATIENCE = 8000;
    private static final Map<String, String[]> OTHERS = Map.ofEntries(Map.entry("<", new String[] {"<=", ">="}),
            Map.entry("<=", new String[] {"<", ">"}), Map.entry(">", new String[] {">=", "<="}),
            Map.entry(">=", new String[] {">", "<"}), Map.entry("==", new String[] {"!="}),
            Map.entry("!=", new String[] {"=="}), Map.entry("&&", new String[] {"||"}), Map.entry("||", new String[] {"&&"}),
            Map.entry("+", new String[] {"-"}), Map.entry("-", new String[] {"+"}), Map.entry("*", new String[] {"+"}),
            Map.entry("/", new String[] {"*"}), Map.entry("%", new String[] {"/"}), Map.entry("&", new String[] {"|"}),
            Map.entry("|", new String[] {"&"}), Map.entry("<<", new String[] {">>"}), Map.entry(">>", new String[] {"<<"}));

    /** In place of what stands from .. to there comes something else. */
    private record Mutant(int from, int to, String instead, long line) {
    }

    private final String source;
    private final CompilationUnitTree unit;
    private final Trees trees;
    private final SourcePositions positions;
    private final List<Mutant> mutants = new ArrayList<>();

    private Mutants(String source) throws IOException {
        this.source = source;
        JavacTask task = task(source, new HashMap<>());
        unit = task.parse().iterator().next();
        task.analyze();
        trees = Trees.instance(task);
        positions = trees.getSourcePositions();
    }

    public static void main(String[] args) throws Exception {
        String source = Files.readString(SOURCE);
        Mutants all = new Mutants(source);
        all.scan(all.unit, null);
        Map<String, byte[]> whole = compile(source);
        PrintStream out = System.out;
        System.setOut(new PrintStream(OutputStream.nullOutputStream()));
        ExecutorService workers = Executors.newFixedThreadPool(Runtime.getRuntime().availableProcessors());
        List<Future<Boolean>> noticed = new ArrayList<>();
        for (Mutant mutant : all.mutants) {
            noticed.add(workers.submit(() -> isNoticed(all.mutate(mutant), whole)));
        }
        int count = 0;
        for (int i = 0; i < noticed.size(); i++) {
            if (!noticed.get(i).get()) {
                count++;
                out.println(all.tell(all.mutants.get(i)));
            }
        }
        out.println(count + " of " + noticed.size() + " breaks are not noticed");
        System.exit(0);
    }

    private String mutate(Mutant mutant) {
        return source.substring(0, mutant.from) + mutant.instead + source.substring(mutant.to);
    }

    private String tell(Mutant mutant) {
        int first = source.lastIndexOf('\n', mutant.from) + 1;
        int behind = Math.max(mutant.to, source.indexOf('\n', mutant.from));
        return "line " + mutant.line + ": " + source.substring(first, mutant.from).stripLeading() + "[["
                + source.substring(mutant.from, mutant.to) + " -> " + mutant.instead + "]]" + source.substring(mutant.to, behind);
    }

    /** Also where the text doesn't compile, or comes to the same classes. */
    @SuppressWarnings({"deprecation", "removal"})
    private static boolean isNoticed(String text, Map<String, byte[]> whole) throws Exception {
        Map<String, byte[]> classes = compile(text);
        boolean isSame = classes.keySet().equals(whole.keySet());
        for (String name : classes.keySet()) {
            isSame = isSame && Arrays.equals(classes.get(name), whole.get(name));
        }
        if (classes.isEmpty() || isSame) {
            return true;
        }
        int[] wrong = {1};
        Thread run = new Thread(() -> wrong[0] = runTest(new Loader(classes)));
        run.start();
        run.join(PATIENCE);
        run.stop();
        return wrong[0] != 0;
    }

    private static int runTest(ClassLoader loader) {
        try {
            Method run = loader.loadClass("SentencesTest").getDeclaredMethod("run");
            run.setAccessible(true);
            return (Integer) run.invoke(null);
        } catch (ReflectiveOperationException thrown) {
            return 1;
        }
    }

    /** Has the classes of a mutant, and the tests' once more for each of them: these keep count of what is wrong. */
    private static final class Loader extends ClassLoader {
        private final Map<String, byte[]> classes;

        Loader(Map<String, byte[]> classes) {
            super(ClassLoader.getPlatformClassLoader());
            this.classes = classes;
        }

        @Override
        protected Class<?> findClass(String name) throws ClassNotFoundException {
            byte[] code = classes.get(name);
            try (InputStream file = ClassLoader.getSystemResourceAsStream(name + ".class")) {
                code = code == null && file != null ? file.readAllBytes() : code;
            } catch (IOException thrown) {
                throw new ClassNotFoundException(name, thrown);
            }
            if (code == null) {
                throw new ClassNotFoundException(name);
            }
            return defineClass(name, code, 0, code.length);
        }
    }

    private static Map<String, byte[]> compile(String text) throws IOException {
        Map<String, ByteArrayOutputStream> written = new HashMap<>();
        Map<String, byte[]> classes = new HashMap<>();
        if (task(text, written).call()) {
            written.forEach((name, code) -> classes.put(name, code.toByteArray()));
        }
        return classes;
    }

    private static JavacTask task(String text, Map<String, ByteArrayOutputStream> written) {
        JavaCompiler compiler = ToolProvider.getSystemJavaCompiler();
        JavaFileObject file = new SimpleJavaFileObject(URI.create("string:///AttributeDesk.java"), JavaFileObject.Kind.SOURCE) {
            @Override
            public CharSequence getCharContent(boolean ignores) {
                return text;
            }
        };
        JavaFileManager files = new ForwardingJavaFileManager<>(compiler.getStandardFileManager(null, null, null)) {
            @Override
            public JavaFileObject getJavaFileForOutput(Location where, String name, JavaFileObject.Kind kind, FileObject by) {
                return new SimpleJavaFileObject(URI.create("string:///" + name + ".class"), kind) {
                    @Override
                    public OutputStream openOutputStream() {
                        return written.computeIfAbsent(name, x -> new ByteArrayOutputStream());
                    }
                };
            }
        };
        return (JavacTask) compiler.getTask(new StringWriter(), files, said -> { }, List.of("-proc:none"), null, List.of(file));
    }

    private int start(Tree tree) {
        return (int) positions.getStartPosition(unit, tree);
    }

    private int end(Tree tree) {
        return (int) positions.getEndPosition(unit, tree);
    }

    private void add(int from, int to, String... others) {
        for (String instead : others) {
            // What the compiler puts in itself has no place in the source.
            if (from >= 0 && to >= from) {
                mutants.add(new Mutant(from, to, instead, unit.getLineMap().getLineNumber(from)));
            }
        }
    }

    private void add(Tree tree, String... others) {
        add(start(tree), end(tree), others);
    }

    @Override
    public Void visitBinary(BinaryTree tree, Void nothing) {
        int from = end(tree.getLeftOperand());
        int to = start(tree.getRightOperand());
        String sign = source.substring(from, to).replaceAll("[^-<>=!&|+*/%]", "");
        int at = source.indexOf(sign, from);
        add(at, at + sign.length(), OTHERS.getOrDefault(sign, new String[0]));
        if (sign.equals("&&") || sign.equals("||")) {
            String neutral = sign.equals("&&") ? "true" : "false";
            add(tree.getLeftOperand(), neutral);
            add(tree.getRightOperand(), neutral);
        }
        return super.visitBinary(tree, nothing);
    }

    @Override
    public Void visitLiteral(LiteralTree tree, Void nothing) {
        String text = source.substring(Math.max(start(tree), 0), Math.max(end(tree), 0));
        if (tree.getValue() instanceof Integer || tree.getValue() instanceof Character) {
            add(tree, "(" + text + " + 1)", "(" + text + " - 1)");
        } else if (tree.getValue() instanceof Boolean is) {
            add(tree, String.valueOf(!is));
        }
        return super.visitLiteral(tree, nothing);
    }

    @Override
    public Void visitIf(IfTree tree, Void nothing) {
        add(tree.getCondition(), "(true)", "(false)");
        return super.visitIf(tree, nothing);
    }

    @Override
    public Void visitConditionalExpression(ConditionalExpressionTree tree, Void nothing) {
        add(tree.getCondition(), "true", "false");
        return super.visitConditionalExpression(tree, nothing);
    }

    @Override
    public Void visitExpressionStatement(ExpressionStatementTree tree, Void nothing) {
        if (!(getCurrentPath().getParentPath().getLeaf() instanceof ForLoopTree)) {
            add(tree, ";");
        }
        return super.visitExpressionStatement(tree, nothing);
    }

    @Override
    public Void visitReturn(ReturnTree tree, Void nothing) {
        ExpressionTree answer = tree.getExpression();
        if (answer != null) {
            TypeKind kind = trees.getTypeMirror(new TreePath(getCurrentPath(), answer)).getKind();
            add(answer, kind == TypeKind.BOOLEAN ? new String[] {"true", "false"} : new String[] {"0", "1", "-1"});
        }
        return super.visitReturn(tree, nothing);
    }

    @Override
    public Void visitUnary(UnaryTree tree, Void nothing) {
        if (tree.getKind() == Tree.Kind.POSTFIX_INCREMENT) {
            boolean isOfLoop = getCurrentPath().getParentPath().getParentPath().getLeaf() instanceof ForLoopTree;
            add(end(tree.getExpression()), isOfLoop ? -1 : end(tree), "--");
        } else {
            add(start(tree), start(tree.getExpression()), "");
        }
        return super.visitUnary(tree, nothing);
    }

    @Override
    public Void visitCase(CaseTree tree, Void nothing) {
        for (ExpressionTree label : tree.getExpressions()) {
            add(label, "-987654");
        }
        return super.visitCase(tree, nothing);
    }
}
