import java.io.IOException;
import java.lang.reflect.Constructor;
import java.lang.reflect.Field;
import java.lang.reflect.Method;
import java.lang.reflect.Modifier;
import java.nio.file.Files;
import java.nio.file.Path;
import java.util.Set;
import java.util.TreeSet;

/** The face of the class is the document's, and nothing else of it is to be seen. */
public final class FaceTest {
    private static final String[] METHODS = {
        "int append(int)", "int bound(int,int,int)", "int breaksIn()", "int cancel(int)",
        "int clear()", "int clip(int,int)", "int clipping(int)", "int count(int)", "int day()",
        "int fault()", "int freeze(int,int)", "int growth(int,int)", "int hedge(int,int)",
        "int height(int,int)", "int ifDays(int,int)", "int nest(int,int)", "int plan()",
        "int restore()", "int save()", "int sign(int,int,int)", "int signAll()", "int thaw(int)",
        "int tightest(int,int)", "int treaty(int,int)", "int undo()", "int why(int)",
        "int whyNot(int,int,int)", "double peace()"
    };

    private static final Checks CHECKS = new Checks();

    public static void main(String[] args) throws IOException {
        checkWords();
        checkClass();
        checkConstants();
        checkMethods();
        checkInnerClasses();
        CHECKS.end("FaceTest");
    }

    /** Each line of the document's face stands in the file, with the same names of arguments. */
    private static void checkWords() throws IOException {
        String source = Files.readString(Path.of("src/main/java/HedgeTreaties.java"));
        for (String line : Document.face()) {
            String start = line.contains("(") ? line.replace(";", " {") : line;
            CHECKS.due("the line " + line, source.contains("\n    " + start + "\n") ? 1 : 0, 1);
        }
    }

    private static void checkClass() {
        int modifiers = HedgeTreaties.class.getModifiers();
        CHECKS.due("public class", Modifier.isPublic(modifiers) ? 1 : 0, 1);
        CHECKS.due("final class", Modifier.isFinal(modifiers) ? 1 : 0, 1);
        Constructor<?>[] constructors = HedgeTreaties.class.getDeclaredConstructors();
        CHECKS.due("constructors", constructors.length, 1);
        CHECKS.due("constructor", constructors[0].toString(), "public HedgeTreaties()");
    }

    private static void checkConstants() {
        CHECKS.due("INVALID_ARGUMENT", HedgeTreaties.INVALID_ARGUMENT, -1);
        CHECKS.due("NOT_POSSIBLE", HedgeTreaties.NOT_POSSIBLE, -2);
        CHECKS.due("LIMIT_REACHED", HedgeTreaties.LIMIT_REACHED, -3);
        CHECKS.due("NOT_FOUND", HedgeTreaties.NOT_FOUND, -4);
        int open = 0;
        for (Field field : HedgeTreaties.class.getDeclaredFields()) {
            int modifiers = field.getModifiers();
            open += Modifier.isPrivate(modifiers) ? 0 : 1;
            boolean changing = Modifier.isStatic(modifiers) && !Modifier.isFinal(modifiers);
            CHECKS.due("changing static field " + field.getName(), changing ? 1 : 0, 0);
        }
        CHECKS.due("fields that are not private", open, 4);
    }

    private static void checkMethods() {
        Set<String> due = new TreeSet<>(Set.of(METHODS));
        Set<String> names = new TreeSet<>();
        Set<String> open = new TreeSet<>();
        for (Method method : HedgeTreaties.class.getDeclaredMethods()) {
            if (!Modifier.isPrivate(method.getModifiers())) {
                open.add(method.toString().replace("public ", "").replace("HedgeTreaties.", ""));
                names.add(method.getName());
            }
        }
        CHECKS.due("methods", open.toString(), due.toString());
        for (Method method : HedgeTreaties.class.getDeclaredMethods()) {
            boolean clash = Modifier.isPrivate(method.getModifiers()) && names.contains(method.getName());
            CHECKS.due("private method with a public name " + method, clash ? 1 : 0, 0);
        }
    }

    private static void checkInnerClasses() {
        for (Class<?> inner : HedgeTreaties.class.getDeclaredClasses()) {
            int modifiers = inner.getModifiers();
            boolean hidden = !Modifier.isPublic(modifiers) && !Modifier.isProtected(modifiers);
            CHECKS.due("hidden " + inner.getName(), hidden ? 1 : 0, 1);
            CHECKS.due("static " + inner.getName(), Modifier.isStatic(modifiers) ? 1 : 0, 1);
        }
    }
}
