import java.util.LinkedHashSet;
import java.util.List;
import java.util.Set;
import java.util.function.BiPredicate;
import java.util.function.Consumer;
import java.util.function.IntUnaryOperator;
import java.util.function.ToIntFunction;

/** Checks that are told with the sentence of the document which they test. */
final class Sentences {
    static final int[] NO_HEDGES = {-1, 8, Integer.MIN_VALUE, Integer.MAX_VALUE};

    private final Checks checks = new Checks();
    private final Set<String> quotes = new LinkedHashSet<>();
    private String quote = "";

    /** A new street to test the sentence with. */
    HedgeTreaties of(String sentence) {
        quote = sentence;
        quotes.add(sentence);
        return new HedgeTreaties();
    }

    void due(String call, long got, long want) {
        checks.due("\"" + quote + "\": " + call, got, want);
    }

    void due(String call, double got, double want) {
        checks.due("\"" + quote + "\": " + call, got, want);
    }

    void due(String call, String got, String want) {
        checks.due("\"" + quote + "\": " + call, got, want);
    }

    /** The call takes each number from the least to the most one, and no other. */
    void takes(int least, int most, IntUnaryOperator call) {
        for (int argument = least; argument <= most; argument++) {
            due("takes " + argument, call.applyAsInt(argument) == -1 ? 1 : 0, 0);
        }
        int[] others = {least - 1, most + 1, least - 256, most + 256, least - 65536, most + 65536,
            Integer.MIN_VALUE, Integer.MIN_VALUE + least + 1, Integer.MAX_VALUE};
        for (int argument : others) {
            due("takes no " + argument, call.applyAsInt(argument), -1);
        }
    }

    /** The call returns the error, and the street, its history and its snapshot stay as they were. */
    void error(int error, Consumer<HedgeTreaties> before, ToIntFunction<HedgeTreaties> call) {
        for (int back = 0; back <= 5; back++) {
            HedgeTreaties untouched = new HedgeTreaties();
            before.accept(untouched);
            HedgeTreaties touched = new HedgeTreaties();
            before.accept(touched);
            due("error", call.applyAsInt(touched), error);
            goBack(untouched, back);
            goBack(touched, back);
            due("behind an error, back " + back, Looks.all(touched), Looks.all(untouched));
        }
    }

    /** By so many states of the history, or, beyond 4, to the snapshot. */
    private static void goBack(HedgeTreaties x, int back) {
        if (back > 4) {
            x.restore();
            return;
        }
        for (int state = 0; state < back; state++) {
            x.undo();
        }
    }

    static void write(HedgeTreaties x, String text) {
        x.clear();
        for (int i = 0; i < text.length(); i++) {
            x.append(text.charAt(i));
        }
    }

    /** Three treaties, of which one is frozen and one broken, birds, a snapshot, a stop, a pad. */
    static void makeBusy(HedgeTreaties x) {
        x.sign(0, 1, 5);
        x.sign(2, 3, -4);
        x.nest(4, 9);
        write(x, "5<6+7;5<5");
        x.signAll();
        x.save();
        x.day();
        x.freeze(0, 6);
        x.height(5, 30);
        x.growth(7, 3);
        x.clip(3, 2);
        write(x, "6<7");
    }

    /** As many treaties as there may be. */
    static void makeFull(HedgeTreaties x) {
        makeBusy(x);
        for (int d = 60; d > 49; d--) {
            x.sign(6, 7, d);
        }
    }

    /** Each sentence has to be covered by a quote, and each quote has to stand in the document. */
    void end(List<String> sentences, BiPredicate<String, String> isCovered, String test) {
        for (String sentence : sentences) {
            boolean tested = quotes.stream().anyMatch(each -> isCovered.test(sentence, each));
            checks.due("a test of \"" + sentence + "\"", tested ? 1 : 0, 1);
        }
        for (String each : quotes) {
            boolean stands = sentences.stream().anyMatch(sentence -> isCovered.test(sentence, each));
            checks.due("the document says \"" + each + "\"", stands || sentences.isEmpty() ? 1 : 0, 1);
        }
        System.out.println(test + ": " + quotes.size() + " quotes, " + sentences.size() + " sentences");
        checks.end(test);
    }
}
