import java.io.IOException;
import java.lang.reflect.Method;
import java.lang.reflect.Modifier;
import java.nio.file.Files;
import java.nio.file.Path;
import java.util.Arrays;
import java.util.regex.Matcher;
import java.util.regex.Pattern;

/** Looks for words and sizes that LANGUAGE.md rules out; javac does not mind them. */
public final class LanguageTest {
    private static final String[] RULED_OUT = {
        "\\bimport\\b", "\\bpackage\\b", "->", "::", "\\bfinally\\b", "\\bcatch\\b", "\\btry\\b",
        "\\bthrow\\b", "\\bassert\\b", "\\bsynchronized\\b", "\\bprotected\\b", "\\bvar\\b",
        "\\bSystem\\b", "\\bhashCode\\b", "\\btoString\\b", "\\bNaN\\b", "Exact\\b",
        "\\bstatic\\s*\\{", "\\bwhile\\b", "\"", "@"
    };

    private static final Checks CHECKS = new Checks();

    public static void main(String[] args) throws IOException {
        String text = Files.readString(Path.of("src/main/java/HedgeTreaties.java"));
        String code = text.replaceAll("(?s)/\\*.*?\\*/", "").replaceAll("//[^\n]*", "");
        for (String word : RULED_OUT) {
            Matcher matcher = Pattern.compile(word).matcher(code);
            CHECKS.due("use of " + word, matcher.find() ? 1 : 0, 0);
        }
        CHECKS.due("new outside of makers", newInMethods(code), 0);
        CHECKS.due("signs that are not 1 to 127", text.chars().anyMatch(sign -> sign < 1 || sign > 127) ? 1 : 0, 0);
        checkSizes(text);
        CHECKS.end("LanguageTest");
    }

    /** All rows are made once, with the object: a run has room for no more. */
    private static int newInMethods(String code) {
        int found = 0;
        for (String line : code.split("\n")) {
            boolean ofField = line.contains("final int[]");
            boolean inConstructor = line.matches(" {8,12}(street|snapshot|history|history\\[state\\]|surveyor|pad) = new .*");
            found += line.contains("new ") && !ofField && !inConstructor ? 1 : 0;
        }
        return found;
    }

    private static void checkSizes(String text) {
        Class<?>[] inner = HedgeTreaties.class.getDeclaredClasses();
        CHECKS.due("more than 12 classes", inner.length + 1 > 12 ? 1 : 0, 0);
        checkSizes(HedgeTreaties.class);
        for (Class<?> each : inner) {
            checkSizes(each);
        }
        int start = 0;
        String[] lines = text.split("\n");
        for (int line = 0; line < lines.length; line++) {
            if (lines[line].matches("( {4}){1,2}[a-zA-Z].*\\) \\{")) {
                start = line;
            }
            if (lines[line].matches("( {4}){1,2}\\}")) {
                CHECKS.due("more than 60 lines up to line " + (line + 1), line - start > 60 && start > 0 ? 1 : 0, 0);
                start = 0;
            }
        }
    }

    private static void checkSizes(Class<?> each) {
        long fields = Arrays.stream(each.getDeclaredFields())
                .filter(field -> !Modifier.isStatic(field.getModifiers())).count();
        CHECKS.due("more than 20 fields of " + each, fields > 20 ? 1 : 0, 0);
        for (Method method : each.getDeclaredMethods()) {
            CHECKS.due("more than 7 parameters of " + method, method.getParameterCount() > 7 ? 1 : 0, 0);
        }
    }
}
