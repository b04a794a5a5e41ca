import java.io.ByteArrayOutputStream;
import java.io.PrintStream;
import java.net.URL;
import java.net.URLClassLoader;
import java.nio.file.Files;
import java.nio.file.Path;
import java.util.regex.Matcher;
import java.util.regex.Pattern;
import javax.tools.ToolProvider;

/** README.md's example, compiled and run, prints what README.md says; and README.md names every test. */
public final class ReadmeTest {
    private static int wrong = 0;

    private ReadmeTest() {
    }

    public static void main(String[] args) throws Exception {
        String readme = Files.readString(Path.of("README.md"));
        due("what the example prints", run(block(readme, "java")), block(readme, "text"));
        try (var files = Files.list(Path.of("src/test/java"))) {
            for (Path file : files.filter(one -> one.toString().endsWith("Test.java")).toList()) {
                String name = file.getFileName().toString().replace(".java", "");
                due(name + " is named", readme.contains("- `" + name + "`:"), true);
            }
        }
        System.out.println(wrong == 0 ? "README.md is right" : wrong + " things in README.md are wrong");
        if (wrong != 0) {
            System.exit(1);
        }
    }

    private static void due(String what, Object got, Object want) {
        if (!got.equals(want)) {
            wrong++;
            System.out.println(what + ": it is\n" + got + "\ndue is\n" + want);
        }
    }

    private static String block(String readme, String kind) {
        Matcher matcher = Pattern.compile("```" + kind + "\n(.*?)```", Pattern.DOTALL).matcher(readme);
        return matcher.find() ? matcher.group(1) : "no block of " + kind;
    }

    private static String run(String program) throws Exception {
        Path folder = Files.createTempDirectory("readme");
        Path file = folder.resolve("Example.java");
        Files.writeString(file, program);
        int answer = ToolProvider.getSystemJavaCompiler().run(null, System.out, System.out, "-Xlint:all", "-classpath",
            System.getProperty("java.class.path"), "-d", folder.toString(), file.toString());
        ByteArrayOutputStream printed = new ByteArrayOutputStream();
        PrintStream out = System.out;
        if (answer == 0) {
            try (URLClassLoader loader = new URLClassLoader(new URL[] {folder.toUri().toURL()})) {
                System.setOut(new PrintStream(printed, true));
                loader.loadClass("Example").getMethod("main", String[].class).invoke(null, (Object) new String[0]);
            } finally {
                System.setOut(out);
            }
        }
        Files.deleteIfExists(file);
        Files.deleteIfExists(folder.resolve("Example.class"));
        Files.deleteIfExists(folder);
        return answer == 0 ? printed.toString().replace("\r\n", "\n") : "the example doesn't compile";
    }
}
