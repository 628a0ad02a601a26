import java.io.IOException;
import java.nio.file.Files;
import java.nio.file.Path;
import java.util.List;
import java.util.function.Consumer;
import java.util.function.ToIntFunction;

/** Each sentence of the document's "Terms" with its boundary cases: a test a quote. */
public final class TermsTest {
    private static final int[] NO_HEDGES = Sentences.NO_HEDGES;
    private static final int INVALID = HedgeTreaties.INVALID_ARGUMENT;
    private static final int NOT_POSSIBLE = HedgeTreaties.NOT_POSSIBLE;
    private static final int LIMIT = HedgeTreaties.LIMIT_REACHED;
    private static final int NOT_FOUND = HedgeTreaties.NOT_FOUND;

    private static final Sentences SENTENCES = new Sentences();

    public static void main(String[] args) throws IOException {
        use();
        hedges();
        birds();
        numbersOfTreaties();
        heightsOfTreaties();
        frozenTreaties();
        possibleSets();
        bounds();
        reasonsToSign();
        clips();
        leastClippings();
        plans();
        days();
        thaws();
        freezes();
        pads();
        texts();
        faults();
        changes();
        histories();
        manyErrors();
        errors();
        constants();
        headings();
        SENTENCES.end(Document.terms(), String::contains, "TermsTest");
    }

    private static HedgeTreaties of(String quote) {
        return SENTENCES.of(quote);
    }

    private static void due(String call, long got, long want) {
        SENTENCES.due(call, got, want);
    }

    private static void due(String call, double got, double want) {
        SENTENCES.due(call, got, want);
    }

    private static void use() {
        HedgeTreaties x = of("An object is used for at most 512 calls after it has been made");
        for (int day = 1; day <= 511; day++) {
            due("day " + day, x.day(), 0);
        }
        due("the 512th call", x.count(0), 511);
        HedgeTreaties refused = new HedgeTreaties();
        for (int times = 1; times <= 511; times++) {
            due("clip " + times, refused.clip(0, 11), 4);
        }
        due("the 512th call", refused.count(8), 511);
        HedgeTreaties signed = new HedgeTreaties();
        for (int times = 1; times <= 255; times++) {
            due("sign " + times, signed.sign(0, 1, 2), 10);
            due("cancel " + times, signed.cancel(0), 0);
        }
        due("the 511th call", signed.count(7), 255);
        due("the 512th call", signed.count(1), 0);
        HedgeTreaties clipped = new HedgeTreaties();
        for (int times = 1; times <= 255; times++) {
            due("height " + times, clipped.height(7, 99), times == 1 ? 10 : 0);
            due("clip " + times, clipped.clip(7, 99), 10);
        }
        due("the 511th call", clipped.count(10), 255 * 99);
        due("the 512th call", clipped.hedge(7, 7), 255 * 99);
        HedgeTreaties frozen = new HedgeTreaties();
        frozen.sign(0, 1, -1);
        for (int times = 1; times <= 255; times++) {
            due("freeze " + times, frozen.freeze(0, 1), 10 + times);
            frozen.day();
        }
        due("the 512th call", frozen.count(6), 265);

        HedgeTreaties y = of("All numbers are whole numbers, but where a double is told.");
        y.sign(0, 1, -1);
        y.sign(2, 3, 0);
        y.sign(4, 5, 0);
        due("peace", y.peace(), 2.0 / 3.0);
    }

    private static void hedges() {
        HedgeTreaties x = of("There are 8 hedges, 0 to 7");
        for (int hedge = 0; hedge <= 7; hedge++) {
            due("hedge " + hedge, x.hedge(hedge, 0), 10);
        }
        for (int hedge : NO_HEDGES) {
            due("no hedge " + hedge, x.hedge(hedge, 0), INVALID);
        }
        due("all together", x.count(4), 80);

        HedgeTreaties y = of("each with a height, 0 to 99 (10 at first)");
        for (int hedge = 0; hedge <= 7; hedge++) {
            due("at first", y.height(hedge, 0), 10);
            due("0", y.height(hedge, 99), 0);
            due("99", y.hedge(hedge, 0), 99);
            due("too small", y.height(hedge, -1), INVALID);
            due("too large", y.height(hedge, 100), INVALID);
            due("still 99", y.hedge(hedge, 0), 99);
        }

        HedgeTreaties z = of("a growth, 0 to 5 a day (at first 1)");
        for (int hedge = 0; hedge <= 7; hedge++) {
            due("at first", z.growth(hedge, 0), 1);
            due("0", z.growth(hedge, 5), 0);
            due("too small", z.growth(hedge, -1), INVALID);
            due("too large", z.growth(hedge, 6), INVALID);
            due("5", z.hedge(hedge, 1), 5);
        }
        z.growth(0, 0);
        z.day();
        due("by 0 a day", z.hedge(0, 0), 10);
        due("by 5 a day", z.hedge(7, 0), 15);

        HedgeTreaties w = of("Days are numbered from 0.");
        due("at first", w.count(0), 0);
        due("a day", w.day(), 0);
        due("then", w.count(0), 1);
    }

    private static void birds() {
        HedgeTreaties x = of("Birds nest in a hedge on all days before the day until which they do (0 at first)");
        for (int hedge = 0; hedge <= 7; hedge++) {
            due("until, at first", x.hedge(hedge, 3), 0);
            due("not on the day 0", x.hedge(hedge, 2), 0);
        }
        due("clip on the day 0", x.clip(1, 1), 19);
        x.nest(1, 1);
        due("before the day 1", x.hedge(1, 2), 1);
        due("clip before the day 1", x.clip(1, 1), 3);
        x.day();
        due("on the day 1", x.hedge(1, 2), 0);
        due("clip on the day 1", x.clip(1, 1), 19);
        x.nest(7, 30);
        for (int day = 1; day < 31; day++) {
            due("on the day " + day, x.hedge(7, 2), 1);
            x.day();
        }
        due("on the day 31", x.hedge(7, 2), 0);
        due("until", x.hedge(7, 3), 31);
        x.nest(7, 5);
        x.nest(7, 0);
        due("until today is not today", x.hedge(7, 2), 0);
    }

    /** Fourteen treaties, the first one with d 60, each next one with 1 less. */
    private static void signFourteen(HedgeTreaties x) {
        for (int number = 0; number < 14; number++) {
            due("sign the treaty " + number, x.sign(6, 7, 60 - number), 10 + number);
        }
    }

    private static void numbersOfTreaties() {
        HedgeTreaties x = of("There are at most 14 treaties");
        signFourteen(x);
        due("the 15th", x.sign(0, 1, 0), LIMIT);
        due("treaties", x.count(1), 14);
        due("cancel", x.cancel(13), 13);
        due("the 14th again", x.sign(0, 1, 0), 23);
        due("the 15th again", x.sign(2, 3, 0), LIMIT);

        HedgeTreaties y = of("numbered from 0 in the order in which they were signed");
        due("the first", y.sign(5, 6, 1), 10);
        due("the next", y.sign(0, 1, 2), 11);
        due("a refused one gets no number", y.sign(0, 1, 2), 2);
        due("the next", y.sign(3, 2, 0), 12);
        due("of 0", y.treaty(0, 0), 5);
        due("of 1", y.treaty(1, 0), 0);
        due("of 2", y.treaty(2, 0), 3);
        due("of 3", y.treaty(3, 0), INVALID);

        of("(when one is cancelled, those with greater numbers get numbers that are 1 less)");
        for (int cancelled = 0; cancelled < 14; cancelled++) {
            HedgeTreaties z = new HedgeTreaties();
            signFourteen(z);
            for (int number = 0; number < 14; number++) {
                z.freeze(number, number + 1);
            }
            due("cancel " + cancelled, z.cancel(cancelled), 13);
            for (int number = 0; number < 13; number++) {
                int before = number < cancelled ? number : number + 1;
                due("d of " + number + " behind " + cancelled, z.treaty(number, 2), 160 - before);
                due("day of " + number + " behind " + cancelled, z.treaty(number, 6), before + 1);
            }
            due("no treaty 13", z.treaty(13, 2), INVALID);
        }
        for (int cancelled = 0; cancelled < 3; cancelled++) {
            HedgeTreaties row = new HedgeTreaties();
            row.sign(0, 1, 1);
            row.sign(2, 3, 1);
            row.sign(4, 5, 1);
            row.cancel(cancelled);
            for (int number = 0; number < 2; number++) {
                int before = number < cancelled ? number : number + 1;
                due("first of " + number + " behind " + cancelled, row.treaty(number, 0), 2 * before);
                due("other of " + number + " behind " + cancelled, row.treaty(number, 1), 2 * before + 1);
            }
        }
        HedgeTreaties only = new HedgeTreaties();
        only.sign(0, 1, 0);
        due("the only one", only.cancel(0), 0);
        due("no treaty 0", only.treaty(0, 0), INVALID);
        due("empty", only.cancel(0), INVALID);
    }

    private static void heightsOfTreaties() {
        HedgeTreaties x = of("A treaty is about a hedge, another hedge");
        due("the same one", x.sign(4, 4, 0), INVALID);
        due("another one", x.sign(4, 5, 0), 10);
        due("the other way", x.sign(5, 4, 0), 11);
        due("none is signed by an error", x.count(1), 2);

        HedgeTreaties y = of("a number d, -30 to 60");
        due("too small", y.sign(0, 1, -31), INVALID);
        due("too large", y.sign(0, 1, 61), INVALID);
        due("the least", y.sign(0, 1, -30), 10);
        due("the most", y.sign(2, 3, 60), 11);
        due("d", y.treaty(0, 2), 70);
        due("d", y.treaty(1, 2), 160);

        HedgeTreaties z = of("the first hedge may be at most d higher than the other one");
        z.sign(0, 1, 60);
        z.sign(2, 3, 0);
        due("equal", z.treaty(1, 4), 0);
        z.height(2, 11);
        due("1 higher than d 0", z.treaty(1, 4), 1);
        z.height(0, 60);
        z.height(1, 0);
        due("60 higher", z.treaty(0, 4), 0);
        z.height(0, 61);
        due("61 higher", z.treaty(0, 4), 1);
        z.height(0, 0);
        z.height(1, 99);
        due("99 lower", z.treaty(0, 4), 0);

        HedgeTreaties w = of("(With d below 0 it has to be lower by so much at least.)");
        w.sign(0, 1, -30);
        int[][] heights = {{0, 30, 0}, {1, 30, 1}, {0, 29, 1}, {69, 99, 0}, {70, 99, 1}, {0, 99, 0}};
        for (int[] row : heights) {
            w.height(0, row[0]);
            w.height(1, row[1]);
            due(row[0] + " beside " + row[1], w.treaty(0, 4), row[2]);
        }

        HedgeTreaties v = of("A treaty in force is broken, if the first hedge is more than d higher than the other one.");
        v.sign(0, 1, 5);
        v.height(0, 15);
        due("exactly d higher", v.count(3), 0);
        v.height(0, 16);
        due("more than d higher", v.count(3), 1);
        v.freeze(0, 1);
        due("not in force", v.count(3), 0);
        due("in force again", v.day(), 1);
        v.height(1, 99);
        due("the other one is higher", v.count(3), 0);
    }

    private static void frozenTreaties() {
        HedgeTreaties x = of("It is frozen on all days before the day until which it is (0 at first)");
        x.sign(0, 1, 5);
        due("until, at first", x.treaty(0, 6), 0);
        due("not on the day 0", x.treaty(0, 3), 1);
        x.freeze(0, 1);
        due("before the day 1", x.treaty(0, 3), 0);
        x.day();
        due("on the day 1", x.treaty(0, 3), 1);
        x.sign(2, 3, 5);
        due("until, signed on the day 1", x.treaty(1, 6), 0);
        x.freeze(1, 30);
        for (int day = 1; day < 31; day++) {
            due("on the day " + day, x.treaty(1, 3), 0);
            x.day();
        }
        due("on the day 31", x.treaty(1, 3), 1);
        due("until", x.treaty(1, 6), 31);

        HedgeTreaties y = of("otherwise it is in force");
        y.sign(0, 1, -5);
        for (int day = 0; day < 3; day++) {
            boolean frozen = day == 1;
            if (frozen) {
                y.freeze(0, 1);
            }
            due("in force", y.count(2), frozen ? 0 : 1);
            due("about the hedge", y.hedge(1, 6), frozen ? 0 : 1);
            due("bound", y.bound(0, 1, 0), frozen ? NOT_FOUND : 995);
            due("broken", y.count(3), frozen ? 0 : 1);
            due("clipping", y.clipping(0), frozen ? 0 : 5);
            y.day();
        }
    }

    /** Treaties by which the hedge 4 has to be 99 higher than the hedge 0; from either end on. */
    private static void signStairs(HedgeTreaties x, boolean upwards) {
        for (int step = 0; step < 4; step++) {
            int first = upwards ? step : 3 - step;
            due("step", x.sign(first, first + 1, first == 3 ? -9 : -30), 10 + step);
        }
    }

    private static void possibleSets() {
        of("A set of treaties is possible, if there are heights, of 0 to 99, with which all of them would hold.");
        for (int way = 0; way <= 1; way++) {
            HedgeTreaties x = new HedgeTreaties();
            signStairs(x, way == 1);
            due("stairs 100 high", x.whyNot(3, 4, -10), 1);
            due("a step more", x.whyNot(4, 5, -1), 1);
            due("a step ahead", x.whyNot(5, 0, -1), 1);
            due("nothing above 99", x.whyNot(4, 5, 0), 0);
            due("nothing below 0", x.whyNot(5, 0, 0), 0);
            due("a hedge beside them", x.whyNot(5, 6, -30), 0);
            due("the other way", x.whyNot(4, 0, 60), 1);
        }
        HedgeTreaties y = new HedgeTreaties();
        y.sign(0, 1, 7);
        due("around, together 0", y.whyNot(1, 0, -7), 0);
        due("around, together -1", y.whyNot(1, 0, -8), 1);
        HedgeTreaties z = new HedgeTreaties();
        for (int hedge = 0; hedge < 7; hedge++) {
            z.sign(hedge, hedge + 1, hedge == 3 ? 5 : -1);
        }
        due("around all hedges, together 0", z.whyNot(7, 0, 1), 0);
        due("around all hedges, together -1", z.whyNot(7, 0, 0), 1);
        z.height(0, 99);
        due("the heights now do not matter", z.whyNot(7, 0, 1), 0);
        for (int missing = 0; missing < 7; missing++) {
            dueLongestRow(missing, false);
            dueLongestRow(missing, true);
        }
    }

    /** Seven steps, the missing one of which is signed last, make 99 together at most. */
    private static void dueLongestRow(int missing, boolean upwards) {
        HedgeTreaties x = new HedgeTreaties();
        for (int step = 0; step < 7; step++) {
            int first = upwards ? step : 6 - step;
            if (first != missing) {
                x.sign(first, first + 1, -12);
            }
        }
        due("99 without the step " + missing, x.whyNot(missing, missing + 1, -27), 0);
        due("100 without the step " + missing, x.whyNot(missing, missing + 1, -28), 1);
        due("the least d of the step " + missing, x.tightest(missing, missing + 1), 73);
    }

    private static void bounds() {
        HedgeTreaties x = of("the least sum of the numbers d along a row of treaties in force that leads from the one to the other");
        x.sign(0, 3, 11);
        x.sign(0, 1, 5);
        x.sign(1, 3, 6);
        dueBound(x, 0, 3, 1011);
        x.sign(1, 2, -3);
        x.sign(2, 3, 8);
        dueBound(x, 0, 3, 1010);
        x.freeze(3, 1);
        dueBound(x, 0, 3, 1011);
        HedgeTreaties most = new HedgeTreaties();
        for (int hedge = 6; hedge >= 0; hedge--) {
            most.sign(hedge, hedge + 1, 60);
        }
        dueBound(most, 0, 7, 1420);
        HedgeTreaties least = new HedgeTreaties();
        signStairs(least, true);
        dueBound(least, 0, 4, 901);
        dueBound(least, 4, 5, NOT_FOUND);

        HedgeTreaties y = of("0 of a hedge over itself");
        y.sign(0, 1, 5);
        y.sign(1, 0, -5);
        y.sign(2, 0, 9);
        y.sign(0, 2, 9);
        for (int hedge = 0; hedge <= 7; hedge++) {
            dueBound(y, hedge, hedge, 1000);
        }

        HedgeTreaties z = of("there is none, if no row leads there");
        dueBound(z, 0, 1, NOT_FOUND);
        z.sign(0, 1, 60);
        z.sign(2, 1, 60);
        dueBound(z, 1, 0, NOT_FOUND);
        dueBound(z, 0, 2, NOT_FOUND);
        dueBound(z, 7, 1, NOT_FOUND);
        dueBound(z, 0, 1, 1060);
        z.freeze(0, 1);
        dueBound(z, 0, 1, NOT_FOUND);
    }

    private static void dueBound(HedgeTreaties x, int first, int other, int want) {
        due("bound " + first + " " + other + " 0", x.bound(first, other, 0), want);
        due("bound " + first + " " + other + " 1", x.bound(first, other, 1), want);
    }

    private static void reasonsToSign() {
        HedgeTreaties x = of("To sign a treaty is refused for the first of these reasons that is so");
        x.sign(0, 1, 5);
        x.sign(1, 0, -3);
        for (int d = -30; d <= 60; d++) {
            due("d " + d, x.whyNot(0, 1, d), d < 3 ? 1 : d < 5 ? 0 : 2);
        }

        HedgeTreaties y = of("1: it is not possible together with all treaties that are signed, frozen or not");
        y.sign(0, 1, -5);
        due("not possible", y.sign(1, 0, 4), 1);
        y.freeze(0, 30);
        due("not possible beside a frozen one", y.sign(1, 0, 4), 1);
        due("none is signed", y.count(1), 1);
        due("refused", y.count(8), 2);
        due("possible", y.sign(1, 0, 5), 11);
        y.cancel(0);
        due("possible without it", y.sign(1, 0, 4), 11);

        HedgeTreaties z = of("2: it says nothing new: the bound of its first hedge over the other one is at most d");
        z.sign(0, 1, 2);
        z.sign(1, 2, 3);
        due("the bound itself", z.sign(0, 2, 5), 2);
        due("more", z.sign(0, 2, 60), 2);
        due("none is signed", z.count(1), 2);
        due("refused", z.count(8), 2);
        due("less", z.sign(0, 2, 4), 12);
        z.freeze(2, 1);
        due("the bound of those in force", z.sign(0, 2, 5), 2);
        z.freeze(0, 1);
        due("no bound", z.sign(0, 2, 60), 13);
    }

    private static void clips() {
        HedgeTreaties x = of("To clip a hedge makes it lower by a number.");
        due("by 1", x.clip(0, 1), 19);
        due("by 4", x.clip(0, 4), 15);
        due("its height", x.hedge(0, 0), 5);
        due("all together", x.count(4), 75);

        HedgeTreaties y = of("It is refused for the first of these reasons that is so: 3: birds nest in it");
        y.nest(2, 1);
        due("birds alone", y.clip(2, 1), 3);
        due("birds, and below 0", y.clip(2, 99), 3);
        due("its height", y.hedge(2, 0), 10);
        due("refused", y.count(8), 2);
        due("birds in another one", y.clip(1, 1), 19);

        HedgeTreaties z = of("4: it would be below 0");
        due("-1", z.clip(2, 11), 4);
        due("-89", z.clip(2, 99), 4);
        due("its height", z.hedge(2, 0), 10);
        due("0", z.clip(2, 10), 10);
        due("-1, from 0", z.clip(2, 1), 4);
        due("refused", z.count(8), 3);
        z.height(2, 99);
        due("0, from 99", z.clip(2, 99), 10);
    }

    private static void dueLevels(HedgeTreaties x, int... levels) {
        int together = x.count(4);
        for (int hedge = 0; hedge < levels.length; hedge++) {
            due("level of " + hedge, x.hedge(hedge, 4), levels[hedge]);
            together -= levels[hedge];
        }
        for (int hedge = levels.length; hedge <= 7; hedge++) {
            due("level of " + hedge, x.hedge(hedge, 4), x.hedge(hedge, 0));
            together -= x.hedge(hedge, 0);
        }
        due("clipping 0", x.clipping(0), together);
        due("clipping 1", x.clipping(1), together);
    }

    private static void dueNoLevels(HedgeTreaties x) {
        for (int hedge = 0; hedge <= 7; hedge++) {
            due("level of " + hedge, x.hedge(hedge, 4), NOT_FOUND);
        }
        due("clipping 0", x.clipping(0), NOT_FOUND);
        due("clipping 1", x.clipping(1), NOT_FOUND);
        due("plan", x.plan(), 4);
    }

    private static void leastClippings() {
        HedgeTreaties x = of("each hedge gets the greatest height that is not above its height now");
        dueLevels(x);
        x.sign(0, 1, 5);
        x.height(0, 3);
        dueLevels(x, 3, 10);
        x.height(0, 15);
        dueLevels(x, 15, 10);
        x.height(0, 16);
        dueLevels(x, 15, 10);
        x.height(0, 99);
        dueLevels(x, 15, 10);
        x.height(1, 99);
        dueLevels(x, 99, 99);

        HedgeTreaties y = of("so that all treaties in force hold");
        y.sign(0, 1, -2);
        y.sign(1, 2, -3);
        y.sign(1, 2, -4);
        dueLevels(y, 4, 6, 10);
        y.freeze(2, 1);
        dueLevels(y, 5, 7, 10);
        y.freeze(1, 1);
        dueLevels(y, 8, 10, 10);
        y.freeze(0, 1);
        dueLevels(y, 10, 10, 10);

        HedgeTreaties z = of("(hedges in which birds nest are looked at as the others)");
        z.sign(0, 1, -2);
        z.nest(0, 5);
        z.nest(1, 5);
        dueLevels(z, 8, 10);

        HedgeTreaties w = of("there is none, if a height would have to be below 0 for that");
        w.sign(0, 1, -10);
        dueLevels(w, 0, 10);
        w.height(1, 9);
        dueNoLevels(w);
        w.height(0, 0);
        dueNoLevels(w);
        w.freeze(0, 1);
        dueLevels(w, 0, 9);
        HedgeTreaties last = new HedgeTreaties();
        last.sign(7, 6, -11);
        dueNoLevels(last);
    }

    private static void plans() {
        HedgeTreaties x = of("Clipping by plan does that");
        x.sign(0, 1, -2);
        x.sign(2, 0, -8);
        due("plan", x.plan(), 10 + 2 + 10);
        due("hedge 0", x.hedge(0, 0), 8);
        due("hedge 2, at 0", x.hedge(2, 0), 0);
        due("the others", x.count(4), 68);
        due("none is broken", x.count(3), 0);

        HedgeTreaties y = of("4: there is no least clipping");
        y.sign(0, 1, -2);
        y.sign(2, 3, -2);
        y.height(1, 1);
        y.nest(2, 5);
        y.nest(0, 5);
        due("none, and birds", y.plan(), 4);
        y.nest(2, 0);
        y.nest(0, 0);
        due("none", y.plan(), 4);
        due("nothing is clipped", y.hedge(2, 0), 10);
        due("refused", y.count(8), 2);

        HedgeTreaties z = of("3: birds nest in a hedge that would be lower");
        z.sign(2, 3, -2);
        z.nest(3, 5);
        z.nest(4, 5);
        z.nest(2, 1);
        due("birds", z.plan(), 3);
        due("nothing is clipped", z.hedge(2, 0), 10);
        due("refused", z.count(8), 1);
        z.height(2, 8);
        due("birds in hedges that would not be lower", z.plan(), 10);
        z.height(2, 9);
        due("birds, by 1", z.plan(), 3);
        z.day();
        due("birds are gone", z.plan(), 10 + 1);
    }

    private static void days() {
        HedgeTreaties x = of("A day passes: its number becomes 1 more");
        for (int day = 1; day <= 100; day++) {
            x.day();
            due("the day", x.count(0), day);
        }

        of("each hedge grows by its growth, up to 99");
        int[][] rows = {{0, 0, 0}, {0, 5, 5}, {93, 5, 98}, {94, 5, 99}, {95, 5, 99}, {98, 5, 99}, {99, 5, 99},
            {98, 1, 99}, {99, 1, 99}, {98, 0, 98}, {99, 0, 99}};
        for (int hedge = 0; hedge <= 7; hedge++) {
            HedgeTreaties y = new HedgeTreaties();
            for (int[] row : rows) {
                y.height(hedge, row[0]);
                y.growth(hedge, row[1]);
                y.day();
                due(row[0] + " by " + row[1], y.hedge(hedge, 0), row[2]);
            }
            due("another hedge", y.hedge(7 - hedge, 0), 10 + rows.length);
        }
    }

    private static void thaws() {
        HedgeTreaties x = of("There are 10 cakes at first.");
        due("cakes", x.count(6), 10);

        HedgeTreaties y = of("An envoy thaws a treaty that is frozen today: it is frozen until today then");
        y.sign(0, 1, 5);
        y.day();
        y.freeze(0, 1);
        due("on its last day", y.thaw(0), 19);
        due("until today", y.treaty(0, 6), 1);
        due("in force", y.treaty(0, 3), 1);

        of("costs as many cakes as there were days left");
        for (int days = 1; days <= 10; days++) {
            for (int passed = 0; passed < days; passed++) {
                HedgeTreaties z = new HedgeTreaties();
                z.sign(0, 1, 5);
                z.freeze(0, days);
                for (int day = 0; day < passed; day++) {
                    z.day();
                }
                due("thaw", z.thaw(0), 20 - (days - passed));
                due("cakes", z.count(6), 10 - (days - passed));
            }
        }

        HedgeTreaties w = of("It is refused for the reason 5, if it is not frozen");
        w.sign(0, 1, 5);
        due("never frozen", w.thaw(0), 5);
        w.freeze(0, 1);
        w.day();
        due("frozen until today", w.thaw(0), 5);
        w.freeze(0, 10);
        due("thawed", w.thaw(0), 10);
        due("thawed already, without cakes", w.thaw(0), 5);
        due("refused", w.count(8), 3);

        HedgeTreaties v = of("for the reason 6, if there are not so many cakes");
        v.sign(0, 1, 5);
        v.freeze(0, 11);
        due("a cake too few", v.thaw(0), 6);
        due("cakes", v.count(6), 10);
        due("until", v.treaty(0, 6), 11);
        v.day();
        due("just as many", v.thaw(0), 10);
        v.freeze(0, 1);
        due("none left", v.thaw(0), 6);
        due("refused", v.count(8), 2);
    }

    private static void freezes() {
        HedgeTreaties x = of("To freeze a treaty for days brings a cake for each treaty that it makes not broken (1 or 0).");
        x.sign(0, 1, -1);
        x.sign(0, 2, -1);
        x.sign(3, 4, 0);
        due("broken ones", x.count(3), 2);
        due("a broken one", x.freeze(0, 2), 11);
        due("one that is just not broken", x.freeze(2, 2), 11);
        due("a frozen one", x.freeze(0, 1), 11);
        x.day();
        due("broken again", x.freeze(0, 1), 12);
        due("thawed", x.thaw(0), 21);
        due("broken again", x.freeze(0, 30), 12);
        due("the other one stays broken", x.count(3), 1);
        due("that one", x.freeze(1, 1), 13);
    }

    private static void fill(HedgeTreaties x, int length) {
        for (int i = 1; i <= length; i++) {
            due("append", x.append('~'), i);
        }
    }

    private static void pads() {
        HedgeTreaties x = of("There is a pad of at most 60 characters, initially empty.");
        due("at first", x.count(11), 0);
        due("clear it", x.clear(), 0);
        due("its fault", x.fault(), 0);
        fill(x, 60);
        due("the 61st", x.append('~'), LIMIT);
        due("length", x.count(11), 60);
        due("clear it", x.clear(), 60);
        fill(x, 60);
        due("the 61st again", x.append('~'), LIMIT);
    }

    /** Which characters alone may stand behind the text, and whether each one makes it complete. */
    private static void follow(String text, String complete, String incomplete) {
        for (int code = 33; code <= 126; code++) {
            HedgeTreaties x = new HedgeTreaties();
            Sentences.write(x, text);
            x.append(code);
            int want = text.length();
            if (complete.indexOf(code) >= 0) {
                want = NOT_FOUND;
            } else if (incomplete.indexOf(code) >= 0) {
                want = text.length() + 1;
            }
            due("fault of " + text + (char) code, x.fault(), want);
        }
    }

    private static void texts() {
        of("Treaties as a text are one or more parts with \";\" between two: a digit 0 to 7 (the first hedge), \"<\", a digit 0 to 7");
        follow("", "", "01234567");
        follow("7", "", "<");
        follow("7<", "01234567", "");
        follow("7<0", "", ";+-");
        follow("7<0;", "", "01234567");
        follow("7<0+12;", "", "01234567");
        follow("7<0-12;3", "", "<");

        HedgeTreaties x = of("the same one is no fault, but an error when it is signed");
        Sentences.write(x, "0<1;5<5;2<3");
        due("no fault", x.fault(), NOT_FOUND);
        due("signed ahead of it", x.signAll(), 1);
        due("error", x.why(0), INVALID);
        due("an error is not counted as refused", x.count(8), 0);

        HedgeTreaties y = of("perhaps \"+\" and a number 1 to 60");
        dueNumbers(y, '+', 60);
        follow("0<1+", "123456789", "");
        follow("0<1+1", "0123456789", ";");
        follow("0<1+5", "0123456789", ";");
        follow("0<1+6", "0", ";");
        follow("0<1+7", "", ";");
        follow("0<1+9", "", ";");
        follow("0<1+60", "", ";");
        follow("0<1+59", "", ";");
        follow("0<1+10", "", ";");

        HedgeTreaties z = of("or \"-\" and a number 1 to 30");
        dueNumbers(z, '-', 30);
        follow("0<1-", "123456789", "");
        follow("0<1-1", "0123456789", ";");
        follow("0<1-2", "0123456789", ";");
        follow("0<1-3", "0", ";");
        follow("0<1-4", "", ";");
        follow("0<1-30", "", ";");
        follow("0<1-29", "", ";");
        follow("0<1-10", "", ";");

        HedgeTreaties w = of("(d; 0 without it)");
        Sentences.write(w, "0<1+9;2<3;4<5-9;6<7");
        due("signed", w.signAll(), 4);
        int[] ds = {109, 100, 91, 100};
        for (int number = 0; number < 4; number++) {
            due("d of " + number, w.treaty(number, 2), ds[number]);
        }

        HedgeTreaties v = of("Numbers have no needless 0 ahead.");
        for (String text : new String[] {"0<1+0", "0<1-0", "0<1+01", "0<1-05", "0<1+00", "0<1+060", "0<1-030"}) {
            Sentences.write(v, text);
            due("fault of " + text, v.fault(), 4);
        }
        Sentences.write(v, "2<3;0<1-07");
        due("fault in the second part", v.fault(), 8);
    }

    /** Each number of 0 to 100 behind the sign, and what is signed with it. */
    private static void dueNumbers(HedgeTreaties x, char sign, int most) {
        for (int number = 0; number <= 100; number++) {
            HedgeTreaties z = number == 0 ? x : new HedgeTreaties();
            Sentences.write(z, "0<1" + sign + number);
            boolean right = number >= 1 && number <= most;
            int last = z.count(11) - 1;
            due("fault of " + sign + number, z.fault(), right ? NOT_FOUND : last);
            due("sign " + sign + number, z.signAll(), right ? 1 : NOT_POSSIBLE);
            if (right) {
                due("d of " + sign + number, z.treaty(0, 2), sign == '+' ? 100 + number : 100 - number);
            }
        }
    }

    private static void dueFault(String text, int want) {
        HedgeTreaties x = new HedgeTreaties();
        Sentences.write(x, text);
        due("fault of " + text, x.fault(), want);
        due("length of " + text, x.count(11), text.length());
        due("sign " + text, x.signAll() == NOT_POSSIBLE ? 1 : 0, want == NOT_FOUND ? 0 : 1);
    }

    private static void faults() {
        of("the position, from 0, of the first character that is wrong");
        dueFault("8<1", 0);
        dueFault("8<8+99", 0);
        dueFault("0>1>2", 1);
        dueFault("0<1;2<3;4<9;9", 10);
        dueFault("0<1+61;9", 5);
        dueFault("~~~", 0);

        of("no treaties, of any length, begin with the characters before it and this character");
        String most = "0<1;".repeat(14);
        dueFault(most + "0<1", NOT_FOUND);
        dueFault(most + "0<1;", 60);
        dueFault(most + "0<1+", 60);
        dueFault(most + "0<1-", 60);
        dueFault(most + "0<1<", 59);
        dueFault("1" + most, 1);
        dueFault("0<1+5;".repeat(9) + "0<1+60", NOT_FOUND);
        dueFault("0<1+5;".repeat(9) + "0<1+61", 59);
        dueFault("0<1+5;".repeat(9) + "0<1;1<", 60);
        dueFault("0<1+5;".repeat(9) + "0<1;12", 59);

        of("if there is none, and the pad is not complete (also if it is empty), the length of the pad");
        for (String text : new String[] {"", "0", "0<", "0<1+", "0<1-", "0<1;", "0<1;2", "0<1+60;", "0<1-30;5<"}) {
            dueFault(text, text.length());
        }
    }

    private static void dueChange(String call, ToIntFunction<HedgeTreaties> change, int refused) {
        HedgeTreaties x = new HedgeTreaties();
        x.save();
        Sentences.write(x, "4<5+1");
        x.sign(0, 1, 5);
        x.sign(2, 3, 5);
        x.freeze(1, 11);
        int before = x.count(8);
        due(call + " is no error", change.applyAsInt(x) < 0 ? 1 : 0, 0);
        due(call + " is a change", x.count(12), 4);
        due(call + " is refused", x.count(8) - before, refused);
        due(call + " is undone", x.undo(), 3);
        due(call + " was one change", x.undo(), 2);
        due("before the change ahead of it", x.treaty(1, 6), 0);
    }

    private static void dueNoChange(String call, ToIntFunction<HedgeTreaties> look) {
        HedgeTreaties x = new HedgeTreaties();
        x.sign(0, 1, 5);
        x.save();
        look.applyAsInt(x);
        due(call + " is no change", x.count(12), 1);
    }

    private static void changes() {
        of("The changes are the calls of height, growth, nest, sign, cancel, freeze, thaw, clip, plan, day, signAll and restore that return no error");
        dueChange("height", x -> x.height(0, 5), 0);
        dueChange("growth", x -> x.growth(0, 5), 0);
        dueChange("nest", x -> x.nest(0, 5), 0);
        dueChange("sign", x -> x.sign(0, 2, 5), 0);
        dueChange("cancel", x -> x.cancel(0), 0);
        dueChange("freeze", x -> x.freeze(0, 5), 0);
        dueChange("thaw", x -> x.thaw(0), 1);
        dueChange("clip", x -> x.clip(0, 1), 0);
        dueChange("plan", HedgeTreaties::plan, 0);
        dueChange("day", HedgeTreaties::day, 0);
        dueChange("signAll", HedgeTreaties::signAll, 0);
        dueChange("restore", HedgeTreaties::restore, 0);
        dueNoChange("append", x -> x.append('0'));
        dueNoChange("clear", HedgeTreaties::clear);
        dueNoChange("fault", HedgeTreaties::fault);
        dueNoChange("why", x -> x.why(0));
        dueNoChange("whyNot", x -> x.whyNot(0, 1, 60));
        dueNoChange("tightest", x -> x.tightest(1, 0));
        dueNoChange("clipping", x -> x.clipping(0) + x.clipping(1));
        dueNoChange("breaksIn", HedgeTreaties::breaksIn);
        dueNoChange("ifDays", x -> x.ifDays(30, 0));
        dueNoChange("save", HedgeTreaties::save);
        dueNoChange("an error", x -> x.height(8, 0) + x.signAll());

        of("what is refused for a reason is one, too (it is counted)");
        dueChange("sign, reason 1", x -> x.sign(1, 0, -6), 1);
        dueChange("sign, reason 2", x -> x.sign(0, 1, 5), 1);
        dueChange("clip, reason 4", x -> x.clip(0, 11), 1);
        dueChange("thaw, reason 5", x -> x.thaw(0), 1);
        dueChange("thaw, reason 6", x -> x.thaw(1), 1);
        dueChange("signAll, reason 2", x -> {
            Sentences.write(x, "0<1+5;2<3+5");
            return x.signAll();
        }, 1);
        HedgeTreaties y = new HedgeTreaties();
        y.sign(0, 1, -5);
        y.nest(0, 2);
        due("clip, reason 3", y.clip(0, 1), 3);
        due("states", y.count(12), 3);
        due("plan, reason 3", y.plan(), 3);
        due("states", y.count(12), 4);
        due("refused", y.count(8), 2);
        due("undo", y.undo(), 3);
        due("refused, undone", y.count(8), 1);
        y.height(1, 4);
        due("plan, reason 4", y.plan(), 4);
        due("refused", y.count(8), 2);
    }

    private static void histories() {
        HedgeTreaties x = of("A history of at most 4 states is kept");
        due("at first", x.count(12), 0);
        due("empty", x.undo(), NOT_POSSIBLE);
        for (int change = 1; change <= 6; change++) {
            x.height(0, change);
            due("states", x.count(12), Math.min(change, 4));
        }
        for (int left = 3; left >= 0; left--) {
            due("undo", x.undo(), left);
            due("height", x.hedge(0, 0), left + 2);
        }
        due("empty again", x.undo(), NOT_POSSIBLE);
        due("height", x.hedge(0, 0), 2);
        x.height(0, 50);
        due("a state again", x.count(12), 1);

        HedgeTreaties y = of("each change records everything before it but the pad, the snapshot and why()");
        Sentences.makeBusy(y);
        String before = Looks.street(y);
        y.restore();
        due("a change", y.count(12), 4);
        Sentences.write(y, "0<1-3;0<1-3;0<1-3");
        y.signAll();
        y.append('7');
        y.save();
        due("undo", y.undo(), 3);
        due("undo", y.undo(), 2);
        SENTENCES.due("everything", Looks.street(y), before);
        due("but the pad", y.count(11), 1);
        due("but why()", y.why(2), 6);
        due("but the snapshot", y.restore(), 4);

        HedgeTreaties z = of("(also if nothing is different then)");
        z.height(3, 10);
        z.growth(3, 1);
        z.nest(3, 0);
        due("states", z.count(12), 3);
        due("plan", z.plan(), 10);
        due("states", z.count(12), 4);
        due("undo", z.undo(), 3);

        HedgeTreaties w = of("if there are 5 states then, the oldest one is dropped");
        for (int change = 1; change <= 5; change++) {
            w.day();
        }
        due("states", w.count(12), 4);
        for (int left = 3; left >= 0; left--) {
            due("undo", w.undo(), left);
        }
        due("behind the first change", w.count(0), 1);
    }

    private static void manyErrors() {
        of("If several errors apply to a call, INVALID_ARGUMENT is returned rather than NOT_POSSIBLE, NOT_POSSIBLE rather than LIMIT_REACHED, and LIMIT_REACHED rather than NOT_FOUND");
        HedgeTreaties full = new HedgeTreaties();
        Sentences.makeFull(full);
        due("sign with 14", full.sign(0, 7, 0), LIMIT);
        due("sign with 14, the same hedge", full.sign(3, 3, 0), INVALID);
        due("sign with 14, no hedge", full.sign(8, 0, 0), INVALID);
        due("sign with 14, d", full.sign(0, 7, 61), INVALID);
        Sentences.write(full, "0<");
        due("signAll with 14, and a fault", full.signAll(), NOT_POSSIBLE);
        Sentences.write(full, "3<3");
        full.signAll();
        due("signAll with 14, the same hedge", full.why(0), INVALID);
        Sentences.write(full, "0<7");
        full.signAll();
        due("signAll with 14", full.why(0), LIMIT);
        Sentences.write(full, "~".repeat(60));
        due("append to 60", full.append(126), LIMIT);
        due("append to 60, too small", full.append(32), INVALID);
        due("append to 60, too large", full.append(127), INVALID);
        HedgeTreaties none = new HedgeTreaties();
        none.sign(0, 1, -11);
        due("no way, and no bound", none.bound(2, 3, 2), INVALID);
        due("no hedge, and no bound", none.bound(2, 8, 0), INVALID);
        due("no way, and no clipping", none.clipping(2), INVALID);
        due("no hedge, and no clipping", none.hedge(8, 4), INVALID);
        due("why, and no call", none.why(3), INVALID);

        HedgeTreaties x = of("errors are looked at ahead of reasons");
        Sentences.makeFull(x);
        due("limit ahead of 1", x.sign(1, 0, -30), LIMIT);
        due("limit ahead of 2", x.sign(6, 7, 60), LIMIT);
        due("d ahead of 2", x.sign(6, 7, 61), INVALID);
        due("by 100 ahead of 3", x.clip(4, 100), INVALID);
        due("by 100 ahead of 4", x.clip(6, 100), INVALID);
        due("by 0 ahead of 3", x.clip(4, 0), INVALID);
        due("no treaty ahead of 5", x.thaw(14), INVALID);
        due("refused", x.count(8), 0);
    }

    private static void invalid(ToIntFunction<HedgeTreaties> call) {
        SENTENCES.error(INVALID, Sentences::makeBusy, call);
    }

    private static void errors() {
        of("If there is no hedge or treaty of a certain number, this is INVALID_ARGUMENT.");
        for (int hedge : NO_HEDGES) {
            invalid(x -> x.height(hedge, 5));
            invalid(x -> x.growth(hedge, 2));
            invalid(x -> x.nest(hedge, 2));
            invalid(x -> x.clip(hedge, 1));
            invalid(x -> x.sign(hedge, 0, 5));
            invalid(x -> x.sign(0, hedge, 5));
            invalid(x -> x.hedge(hedge, 0));
            invalid(x -> x.bound(hedge, 0, 0));
            invalid(x -> x.bound(0, hedge, 1));
            invalid(x -> x.whyNot(hedge, 0, 5));
            invalid(x -> x.whyNot(0, hedge, 5));
            invalid(x -> x.tightest(hedge, 0));
            invalid(x -> x.tightest(0, hedge));
        }
        for (int treaty : new int[] {-1, 3, 13, 14, Integer.MIN_VALUE, Integer.MAX_VALUE}) {
            invalid(x -> x.cancel(treaty));
            invalid(x -> x.freeze(treaty, 5));
            invalid(x -> x.thaw(treaty));
            invalid(x -> x.treaty(treaty, 0));
        }

        of("A call that returns an error changes nothing (the pad stays, too).");
        Consumer<HedgeTreaties> fault = x -> {
            Sentences.makeBusy(x);
            x.append(';');
        };
        SENTENCES.error(NOT_POSSIBLE, fault, HedgeTreaties::signAll);
        SENTENCES.error(LIMIT, Sentences::makeFull, x -> x.sign(0, 7, 0));
        SENTENCES.error(LIMIT, x -> Sentences.write(x, "~".repeat(60)), x -> x.append('~'));
        SENTENCES.error(NOT_POSSIBLE, x -> Sentences.write(x, "0<1"), HedgeTreaties::undo);
        SENTENCES.error(NOT_POSSIBLE, x -> x.day(), HedgeTreaties::restore);
        SENTENCES.error(NOT_FOUND, Sentences::makeBusy, x -> x.bound(6, 7, 1));
        SENTENCES.error(NOT_FOUND, Sentences::makeBusy, HedgeTreaties::fault);
        invalid(x -> x.append(32));
        invalid(x -> x.height(0, 100));
        invalid(x -> x.freeze(1, 31));
    }

    private static void constants() {
        HedgeTreaties x = of("`INVALID_ARGUMENT = -1`: An argument is out of its range, or there is no such treaty.");
        due("INVALID_ARGUMENT", HedgeTreaties.INVALID_ARGUMENT, -1);
        due("out of its range", x.height(0, 100), -1);
        due("no such treaty", x.cancel(0), -1);

        HedgeTreaties y = of("`NOT_POSSIBLE = -2`: The call is not possible in the present state.");
        due("NOT_POSSIBLE", HedgeTreaties.NOT_POSSIBLE, -2);
        due("undo", y.undo(), -2);
        due("restore", y.restore(), -2);
        due("signAll", y.signAll(), -2);

        HedgeTreaties z = of("`LIMIT_REACHED = -3`: A fixed limit has been reached.");
        due("LIMIT_REACHED", HedgeTreaties.LIMIT_REACHED, -3);
        signFourteen(z);
        due("sign", z.sign(0, 1, 0), -3);

        HedgeTreaties w = of("`NOT_FOUND = -4`: There is no such value.");
        due("NOT_FOUND", HedgeTreaties.NOT_FOUND, -4);
        due("bound", w.bound(0, 1, 0), -4);
        due("breaksIn", w.breaksIn(), -4);
        due("why", w.why(0), -4);
    }

    private static void headings() throws IOException {
        String source = Files.readString(Path.of("src/main/java/HedgeTreaties.java"));
        int at = 0;
        for (String sentence : List.of(
                "Ahead of the calls `height`, `growth`, `nest`, `clip`, `plan`, `day` the interface says: ---- hedges.",
                "Ahead of the calls `sign`, `cancel`, `freeze`, `thaw` the interface says: ---- treaties.",
                "Ahead of the calls `append`, `clear`, `fault`, `signAll`, `why` the interface says: ---- texts.",
                "Ahead of the calls `hedge`, `treaty`, `bound`, `whyNot`, `clipping`, `count`, `peace` the interface says: ---- looks; nothing is changed.",
                "Ahead of the calls `ifDays`, `breaksIn`, `tightest` the interface says: ---- what would be; nothing is changed.",
                "Ahead of the calls `undo`, `save`, `restore` the interface says: ---- history, snapshot.")) {
            of(sentence);
            String heading = sentence.substring(sentence.indexOf("----"), sentence.length() - 1);
            int next = source.indexOf("\n    // " + heading + "\n");
            due("the heading, behind the calls ahead of it", next > at ? 1 : 0, 1);
            at = next;
            String[] parts = sentence.split("`");
            for (int part = 1; part < parts.length; part += 2) {
                int call = source.indexOf(" " + parts[part] + "(", at);
                due(parts[part] + " in its order", call > at ? 1 : 0, 1);
                at = call;
            }
        }
    }
}
