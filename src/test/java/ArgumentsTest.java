import java.lang.reflect.Method;
import java.lang.reflect.Modifier;
import java.util.Arrays;
import java.util.Comparator;

/** Any arguments in any state: nothing is thrown, and what returns an error changes nothing. */
public final class ArgumentsTest {
    private static final int RUNS = 1500;
    /** With the counts behind each of them these are fewer than the 512 calls promised. */
    private static final int CALLS = 55;
    private static final int[] EDGES = {Integer.MIN_VALUE, -1000, -31, -30, -2, -1, 0, 0, 1, 1, 2, 2, 3,
        4, 5, 6, 7, 8, 9, 12, 13, 14, 15, 30, 31, 32, 33, 48, 60, 61, 98, 99, 100, 126, 127,
        Integer.MAX_VALUE};

    private static final Checks CHECKS = new Checks();
    private static long seed = 4711;

    public static void main(String[] args) throws ReflectiveOperationException {
        Method[] methods = HedgeTreaties.class.getDeclaredMethods();
        methods = Arrays.stream(methods).filter(method -> Modifier.isPublic(method.getModifiers()))
                .toArray(Method[]::new);
        Arrays.sort(methods, Comparator.comparing(Method::getName));
        CHECKS.due("methods", methods.length, 28);
        for (int run = 0; run < RUNS && !CHECKS.anyFailed(); run++) {
            play(methods);
        }
        CHECKS.end("ArgumentsTest");
    }

    private static int pick(int bound) {
        seed = seed * 6364136223846793005L + 1442695040888963407L;
        return (int) ((seed >>> 33) % bound);
    }

    private static void play(Method[] methods) throws ReflectiveOperationException {
        HedgeTreaties x = new HedgeTreaties();
        StringBuilder told = new StringBuilder();
        for (int treaty = pick(15); treaty > 0; treaty--) {
            int first = pick(8);
            int other = pick(8);
            int d = pick(91) - 30;
            told.append("sign").append(Arrays.asList(first, other, d)).append(' ');
            x.sign(first, other, d);
        }
        String before = counts(x);
        for (int call = 0; call < CALLS && !CHECKS.anyFailed(); call++) {
            Method method = methods[pick(methods.length)];
            Object[] arguments = new Object[method.getParameterCount()];
            for (int i = 0; i < arguments.length; i++) {
                arguments[i] = EDGES[pick(EDGES.length)];
            }
            told.append(method.getName()).append(Arrays.toString(arguments)).append(' ');
            double answer = ((Number) method.invoke(x, arguments)).doubleValue();
            CHECKS.due("no answer below -4 of " + told, answer < -4 ? 1 : 0, 0);
            String behind = counts(x);
            if (answer < 0) {
                CHECKS.due("behind an error of " + told, behind, before);
            }
            before = behind;
        }
    }

    private static String counts(HedgeTreaties x) {
        StringBuilder text = new StringBuilder();
        for (int what : new int[] {0, 1, 4, 6, 8, 11, 12}) {
            text.append(x.count(what)).append(' ');
        }
        return text.toString();
    }
}
