import java.io.IOException;
import java.lang.reflect.Method;
import java.lang.reflect.Modifier;
import java.net.URL;
import java.net.URLClassLoader;
import java.nio.file.Files;
import java.nio.file.Path;
import java.util.regex.Pattern;
import javax.tools.JavaCompiler;
import javax.tools.ToolProvider;

/** Compiles the code of README.md, and compares the answers with those that stand behind it. */
public final class ReadmeTest {
    /** An answer is told behind its call: "street.day();  // 0: why". */
    private static final Pattern ANSWER = Pattern.compile("(?m)^(street\\..*);\\s*// (-?[0-9.]+).*$");
    private static final Pattern BLOCK = Pattern.compile("(?s)```java\n(.*?)```");

    private static final Checks CHECKS = new Checks();

    public static void main(String[] args) throws IOException, ReflectiveOperationException {
        StringBuilder code = new StringBuilder();
        BLOCK.matcher(Files.readString(Path.of("README.md"))).results()
                .forEach(block -> code.append(block.group(1)));
        checkEachCallIsShown(code.toString());
        JavaCompiler compiler = ToolProvider.getSystemJavaCompiler();
        if (compiler == null) {
            System.out.println("ReadmeTest: this java has no compiler; the answers are not compared");
        } else {
            checkAnswers(code.toString(), compiler);
        }
        CHECKS.end("ReadmeTest");
    }

    /** For the code that is compiled from the page. */
    public static void due(String call, double got, double want) {
        CHECKS.due("README.md: " + call, got, want);
    }

    private static void checkEachCallIsShown(String code) {
        for (Method method : HedgeTreaties.class.getDeclaredMethods()) {
            if (Modifier.isPublic(method.getModifiers())) {
                boolean shown = code.contains("street." + method.getName() + "(");
                CHECKS.due("README.md shows " + method.getName(), shown ? 1 : 0, 1);
            }
        }
    }

    private static void checkAnswers(String code, JavaCompiler compiler)
            throws IOException, ReflectiveOperationException {
        String lines = ANSWER.matcher(code).replaceAll("ReadmeTest.due(\"$1\", $1, $2);");
        String text = "public final class Page { public static void read() {\n" + lines + "\n} }\n";
        Path folder = Files.createTempDirectory("readme");
        Path file = Files.writeString(folder.resolve("Page.java"), text);
        int result = compiler.run(null, null, null, "-cp", System.getProperty("java.class.path"),
                "-d", folder.toString(), file.toString());
        CHECKS.due("README.md compiles", result, 0);
        if (result == 0) {
            try (URLClassLoader loader = new URLClassLoader(new URL[] {folder.toUri().toURL()})) {
                loader.loadClass("Page").getMethod("read").invoke(null);
            }
        }
        Files.deleteIfExists(folder.resolve("Page.class"));
        Files.deleteIfExists(file);
        Files.deleteIfExists(folder);
    }
}
