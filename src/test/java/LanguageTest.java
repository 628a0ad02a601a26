import java.io.IOException;
import java.nio.file.Files;
import java.nio.file.Path;
import java.util.regex.Matcher;
import java.util.regex.Pattern;

/** Looks in the source for words that LANGUAGE.md rules out; javac does not mind them. */
public final class LanguageTest {
    private static final String[] RULED_OUT = {
        "\\bimport\\b", "\\bpackage\\b", "->", "::", "\\bfinally\\b", "\\bcatch\\b", "\\btry\\b",
        "\\bthrow\\b", "\\bassert\\b", "\\bsynchronized\\b", "\\bprotected\\b", "\\bvar\\b",
        "\\bSystem\\b", "\\bhashCode\\b", "\\btoString\\b", "\\bNaN\\b", "Exact\\b",
        "\\bstatic\\s*\\{", "\\bwhile\\b", "\"", "@"
    };

    private static final Checks CHECKS = new Checks();

    public static void main(String[] args) throws IOException {
        String text = Files.readString(Path.of("src/main/java/HedgeTreaties.java"));
        String code = text.replaceAll("(?s)/\\*.*?\\*/", "").replaceAll("//[^\n]*", "");
        for (String word : RULED_OUT) {
            Matcher matcher = Pattern.compile(word).matcher(code);
            CHECKS.due("use of " + word, matcher.find() ? 1 : 0, 0);
        }
        CHECKS.due("new outside of makers", newInMethods(code), 0);
        CHECKS.end("LanguageTest");
    }

    /** All rows are made once, with the object: a run has room for no more. */
    private static int newInMethods(String code) {
        int found = 0;
        for (String line : code.split("\n")) {
            boolean ofField = line.contains("final int[]");
            boolean inConstructor = line.matches(" {8,12}(street|snapshot|history|history\\[state\\]|surveyor|pad) = new .*");
            found += line.contains("new ") && !ofField && !inConstructor ? 1 : 0;
        }
        return found;
    }
}
