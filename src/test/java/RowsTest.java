import java.util.function.Consumer;
import java.util.function.IntUnaryOperator;
import java.util.function.ToIntFunction;

/** Each piece of the promises' rows, arguments and answers, with its boundary cases: a test a quote. */
public final class RowsTest {
    private static final int[] NO_HEDGES = Sentences.NO_HEDGES;
    private static final int INVALID = HedgeTreaties.INVALID_ARGUMENT;
    private static final int NOT_POSSIBLE = HedgeTreaties.NOT_POSSIBLE;
    private static final int LIMIT = HedgeTreaties.LIMIT_REACHED;
    private static final int NOT_FOUND = HedgeTreaties.NOT_FOUND;

    private static final Sentences SENTENCES = new Sentences();
    private static int promise;

    public static void main(String[] args) {
        newObject();
        heights();
        growths();
        nests();
        clips();
        plans();
        days();
        signs();
        cancels();
        freezes();
        thaws();
        appends();
        clears();
        faults();
        signAlls();
        whys();
        hedges();
        treaties();
        bounds();
        whyNots();
        clippings();
        counts();
        peaces();
        ifDays();
        breaksIns();
        tightests();
        undoes();
        saves();
        restores();
        SENTENCES.end(Document.promises(), String::equals, "RowsTest");
    }

    private static HedgeTreaties of(String piece) {
        return SENTENCES.of(promise + ": " + piece);
    }

    private static void due(String call, long got, long want) {
        SENTENCES.due(call, got, want);
    }

    private static void due(String call, double got, double want) {
        SENTENCES.due(call, got, want);
    }

    /** The argument takes these numbers and no others. */
    private static void range(String piece, int least, int most, IntUnaryOperator call) {
        of(piece);
        SENTENCES.takes(least, most, call);
    }

    /** The argument takes each hedge but the one that the call is about already. */
    private static void anotherHedge(String piece, int same, IntUnaryOperator call) {
        of(piece);
        for (int hedge = 0; hedge <= 7; hedge++) {
            boolean invalid = call.applyAsInt(hedge) == INVALID;
            due("hedge " + hedge, invalid ? 1 : 0, hedge == same ? 1 : 0);
        }
        for (int hedge : NO_HEDGES) {
            due("hedge " + hedge, call.applyAsInt(hedge), INVALID);
        }
    }

    private static void invalid(ToIntFunction<HedgeTreaties> call) {
        SENTENCES.error(INVALID, Sentences::makeBusy, call);
    }

    private static void write(HedgeTreaties x, String text) {
        Sentences.write(x, text);
    }

    private static void newObject() {
        promise = 1;
        HedgeTreaties x = of("Creates a street without treaties, on the day 0");
        int[] counts = {0, 0, 0, 0, 80, 0, 10, 0, 0, 0, 0, 0, 0};
        for (int what = 0; what <= 12; what++) {
            due("count " + what, x.count(what), counts[what]);
        }
        int[] ofHedge = {10, 1, 0, 0, 10, 0, 0, 0};
        for (int hedge = 0; hedge <= 7; hedge++) {
            for (int what = 0; what <= 7; what++) {
                due("hedge " + hedge + " " + what, x.hedge(hedge, what), ofHedge[what]);
            }
        }
        due("treaty", x.treaty(0, 0), INVALID);
        due("fault", x.fault(), 0);
        due("undo", x.undo(), NOT_POSSIBLE);
        due("restore", x.restore(), NOT_POSSIBLE);
        due("why", x.why(0), NOT_FOUND);
        HedgeTreaties other = new HedgeTreaties();
        other.height(0, 99);
        other.day();
        due("another street", x.hedge(0, 0), 10);
        due("another street's day", x.count(0), 0);
    }

    private static void heights() {
        promise = 2;
        HedgeTreaties x = of("Makes a hedge another height");
        x.height(3, 42);
        due("then", x.hedge(3, 0), 42);
        due("the others", x.count(4), 112);
        range("`hedge`: 0 to 7", 0, 7, n -> new HedgeTreaties().height(n, 50));
        range("`height`: 0 to 99", 0, 99, n -> new HedgeTreaties().height(5, n));
        HedgeTreaties y = of("Returns the height before");
        due("at first", y.height(7, 0), 10);
        due("0", y.height(7, 99), 0);
        due("99", y.height(7, 99), 99);
        due("the same", y.height(7, 1), 99);
        of("INVALID_ARGUMENT");
        invalid(z -> z.height(-1, 50));
        invalid(z -> z.height(8, 50));
        invalid(z -> z.height(0, -1));
        invalid(z -> z.height(7, 100));
    }

    private static void growths() {
        promise = 3;
        HedgeTreaties x = of("Changes the growth of a hedge");
        x.growth(3, 4);
        due("then", x.hedge(3, 1), 4);
        due("another", x.hedge(4, 1), 1);
        due("its height", x.hedge(3, 0), 10);
        range("`hedge`: 0 to 7", 0, 7, n -> new HedgeTreaties().growth(n, 2));
        range("`growth`: 0 to 5", 0, 5, n -> new HedgeTreaties().growth(5, n));
        HedgeTreaties y = of("Returns the growth before");
        due("at first", y.growth(7, 0), 1);
        due("0", y.growth(7, 5), 0);
        due("5", y.growth(7, 5), 5);
        of("INVALID_ARGUMENT");
        invalid(z -> z.growth(-1, 2));
        invalid(z -> z.growth(8, 2));
        invalid(z -> z.growth(0, -1));
        invalid(z -> z.growth(7, 6));
    }

    private static void nests() {
        promise = 4;
        HedgeTreaties x = of("Lets birds nest in a hedge");
        x.nest(3, 1);
        due("today", x.hedge(3, 2), 1);
        due("in one hedge", x.count(5), 1);
        range("`hedge`: 0 to 7", 0, 7, n -> new HedgeTreaties().nest(n, 3));
        String days = "`days`: 0 to 30: until the day that is so many days behind today (in place of what was)";
        range(days, 0, 30, n -> new HedgeTreaties().nest(5, n));
        HedgeTreaties y = of(days);
        y.day();
        for (int n : new int[] {30, 0, 1, 29, 2}) {
            y.nest(5, n);
            due("until", y.hedge(5, 3), 1 + n);
            due("today", y.hedge(5, 2), n > 0 ? 1 : 0);
        }
        HedgeTreaties z = of("Returns the day until which they nested before");
        due("at first", z.nest(7, 30), 0);
        z.day();
        due("30", z.nest(7, 0), 30);
        due("today", z.nest(7, 3), 1);
        z.day();
        z.day();
        z.day();
        z.day();
        due("a day that is gone", z.nest(7, 0), 4);
        of("INVALID_ARGUMENT");
        invalid(w -> w.nest(-1, 3));
        invalid(w -> w.nest(8, 3));
        invalid(w -> w.nest(4, -1));
        invalid(w -> w.nest(4, 31));
    }

    private static void clips() {
        promise = 5;
        HedgeTreaties x = of("Clips a hedge");
        x.clip(3, 4);
        due("its height", x.hedge(3, 0), 6);
        due("clipped off it", x.hedge(3, 7), 4);
        due("clips", x.count(9), 1);
        due("the others", x.count(4), 76);
        range("`hedge`: 0 to 7", 0, 7, n -> new HedgeTreaties().clip(n, 3));
        range("`by`: 1 to 99", 1, 99, n -> new HedgeTreaties().clip(5, n));
        HedgeTreaties y = of("Returns 10 and the height then");
        due("9", y.clip(7, 1), 19);
        due("0", y.clip(7, 9), 10);
        y.height(7, 99);
        due("98", y.clip(7, 1), 108);
        due("0, by 98", y.clip(7, 98), 10);
        HedgeTreaties z = of("the reason, 3 or 4, if it is refused");
        due("4", z.clip(0, 11), 4);
        z.nest(0, 1);
        due("3 rather than 4", z.clip(0, 11), 3);
        due("3", z.clip(0, 1), 3);
        due("it stays", z.hedge(0, 0), 10);
        due("no clips", z.count(9), 0);
        due("nothing clipped off", z.count(10), 0);
        of("INVALID_ARGUMENT");
        invalid(w -> w.clip(-1, 3));
        invalid(w -> w.clip(8, 3));
        invalid(w -> w.clip(4, 0));
        invalid(w -> w.clip(4, 100));
        invalid(w -> w.clip(4, -1));
    }

    private static void plans() {
        promise = 6;
        HedgeTreaties x = of("Clips by plan");
        x.sign(0, 1, -3);
        x.sign(2, 0, -4);
        x.plan();
        due("hedge 0", x.hedge(0, 0), 7);
        due("hedge 2", x.hedge(2, 0), 3);
        due("the others", x.count(4), 70);
        due("clipped off 0", x.hedge(0, 7), 3);
        due("clipped off 2", x.hedge(2, 7), 7);
        due("clips", x.count(9), 2);
        HedgeTreaties y = of("Returns 10 and by how much all hedges are clipped together");
        due("nothing", y.plan(), 10);
        y.sign(7, 6, 0);
        y.height(7, 11);
        due("by 1", y.plan(), 11);
        for (int hedge = 0; hedge < 7; hedge++) {
            y.height(hedge, hedge == 0 ? 0 : 99);
        }
        y.height(7, 99);
        for (int hedge = 1; hedge <= 7; hedge++) {
            y.sign(hedge, 0, 0);
        }
        due("the most", y.plan(), 10 + 7 * 99);
        due("none is left above 0", y.count(4), 0);
        HedgeTreaties z = of("the reason, 4 or 3, if it is refused");
        z.sign(0, 1, -10);
        z.nest(0, 2);
        due("3", z.plan(), 3);
        z.height(1, 9);
        due("4 rather than 3", z.plan(), 4);
        z.nest(0, 0);
        due("4", z.plan(), 4);
        due("it stays", z.hedge(0, 0), 10);
        due("no clips", z.count(9), 0);
    }

    private static void days() {
        promise = 7;
        HedgeTreaties x = of("A day passes");
        x.height(0, 98);
        x.growth(1, 5);
        x.nest(2, 1);
        due("day", x.day(), 0);
        due("the day", x.count(0), 1);
        due("hedge 0", x.hedge(0, 0), 99);
        due("hedge 1", x.hedge(1, 0), 15);
        due("the birds are gone", x.hedge(2, 2), 0);
        HedgeTreaties y = of("Returns how many treaties are broken then");
        for (int d = 13; d >= 0; d--) {
            y.sign(0, 1, d);
        }
        y.growth(0, 5);
        y.growth(1, 0);
        due("d 0 to 4", y.day(), 5);
        due("d 0 to 9", y.day(), 10);
        y.freeze(13, 2);
        y.freeze(12, 1);
        due("but for the frozen one", y.day(), 13);
        due("all", y.day(), 14);
        y.height(1, 99);
        due("none", y.day(), 0);
    }

    private static void signs() {
        promise = 8;
        HedgeTreaties x = of("Signs a treaty");
        x.sign(5, 2, 17);
        int[] ofTreaty = {5, 2, 117, 1, 0, 1017, 0, 0};
        for (int what = 0; what <= 7; what++) {
            due("treaty " + what, x.treaty(0, what), ofTreaty[what]);
        }
        due("signed", x.count(7), 1);
        due("treaties", x.count(1), 1);
        anotherHedge("`first`: 0 to 7", 3, n -> new HedgeTreaties().sign(n, 3, 5));
        anotherHedge("`other`: 0 to 7, another one", 4, n -> new HedgeTreaties().sign(4, n, 5));
        range("`d`: -30 to 60", -30, 60, n -> new HedgeTreaties().sign(4, 3, n));
        HedgeTreaties y = of("Returns 10 and its number");
        for (int number = 0; number < 14; number++) {
            due("sign", y.sign(0, 1, 13 - number), 10 + number);
        }
        y.cancel(5);
        due("in place of one", y.sign(0, 2, 0), 23);
        HedgeTreaties z = of("the reason, 1 or 2, if it is refused");
        z.sign(0, 1, 5);
        due("1", z.sign(1, 0, -6), 1);
        due("2", z.sign(0, 1, 5), 2);
        due("neither", z.sign(1, 0, -5), 11);
        due("refused", z.count(8), 2);
        due("treaties", z.count(1), 2);
        due("signed", z.count(7), 2);
        of("INVALID_ARGUMENT");
        invalid(w -> w.sign(-1, 3, 5));
        invalid(w -> w.sign(8, 3, 5));
        invalid(w -> w.sign(3, -1, 5));
        invalid(w -> w.sign(3, 8, 5));
        invalid(w -> w.sign(3, 3, 5));
        invalid(w -> w.sign(3, 4, -31));
        invalid(w -> w.sign(3, 4, 61));
        of("LIMIT_REACHED if there are 14");
        SENTENCES.error(LIMIT, Sentences::makeFull, w -> w.sign(4, 5, 0));
        SENTENCES.error(INVALID, Sentences::makeFull, w -> w.sign(4, 4, 0));
    }

    private static void cancels() {
        promise = 9;
        HedgeTreaties x = of("Cancels a treaty");
        x.sign(0, 1, -1);
        x.sign(2, 3, 5);
        due("broken", x.count(3), 1);
        x.cancel(0);
        due("none is broken", x.count(3), 0);
        due("no bound", x.bound(0, 1, 0), NOT_FOUND);
        due("the other one", x.treaty(0, 0), 2);
        due("signed so far", x.count(7), 2);
        x.cancel(0);
        due("no cakes by that", x.count(6), 10);
        range("`treaty`: its number", 0, 13, n -> {
            HedgeTreaties z = new HedgeTreaties();
            Sentences.makeFull(z);
            return z.cancel(n);
        });
        HedgeTreaties y = of("Returns how many are left");
        Sentences.makeFull(y);
        for (int left = 13; left >= 0; left--) {
            due("cancel", y.cancel(left / 2), left);
        }
        due("none", y.cancel(0), INVALID);
        of("INVALID_ARGUMENT");
        invalid(z -> z.cancel(-1));
        invalid(z -> z.cancel(3));
        SENTENCES.error(INVALID, Sentences::makeFull, z -> z.cancel(14));
        SENTENCES.error(INVALID, z -> z.day(), z -> z.cancel(0));
    }

    /** A street with treaties about the hedges 0 and 1, with d from 13 down to 0. */
    private static HedgeTreaties fourteen() {
        HedgeTreaties x = new HedgeTreaties();
        for (int d = 13; d >= 0; d--) {
            x.sign(0, 1, d);
        }
        return x;
    }

    private static void freezes() {
        promise = 10;
        HedgeTreaties x = of("Freezes a treaty");
        x.sign(0, 1, -1);
        x.sign(0, 1, -2);
        x.freeze(0, 3);
        due("not in force", x.treaty(0, 3), 0);
        due("not broken", x.treaty(0, 4), 0);
        due("another", x.treaty(1, 3), 1);
        due("still signed", x.count(1), 2);
        range("`treaty`: its number", 0, 13, n -> fourteen().freeze(n, 5));
        String days = "`days`: 1 to 30: until the day that is so many days behind today (in place of what was)";
        range(days, 1, 30, n -> fourteen().freeze(0, n));
        HedgeTreaties y = of(days);
        y.sign(0, 1, 5);
        y.day();
        for (int n : new int[] {30, 1, 29, 2}) {
            y.freeze(0, n);
            due("until", y.treaty(0, 6), 1 + n);
            due("in force", y.treaty(0, 3), 0);
        }
        HedgeTreaties z = of("Returns how many cakes there are then");
        z.sign(0, 1, 0);
        due("holds", z.freeze(0, 1), 10);
        z.day();
        z.height(0, 12);
        due("broken by 1", z.freeze(0, 1), 11);
        due("frozen", z.freeze(0, 2), 11);
        z.thaw(0);
        due("broken again", z.freeze(0, 2), 10);
        of("INVALID_ARGUMENT");
        invalid(w -> w.freeze(-1, 5));
        invalid(w -> w.freeze(3, 5));
        invalid(w -> w.freeze(1, 0));
        invalid(w -> w.freeze(1, 31));
        invalid(w -> w.freeze(1, -1));
    }

    private static void thaws() {
        promise = 11;
        HedgeTreaties x = of("An envoy thaws a treaty");
        x.sign(0, 1, -1);
        x.sign(0, 1, -2);
        x.freeze(0, 3);
        x.freeze(1, 3);
        x.thaw(0);
        due("in force", x.treaty(0, 3), 1);
        due("broken", x.treaty(0, 4), 1);
        due("another", x.treaty(1, 3), 0);
        range("`treaty`: its number", 0, 13, n -> fourteen().thaw(n));
        HedgeTreaties y = of("Returns 10 and how many cakes there are then");
        y.sign(0, 1, 5);
        y.freeze(0, 1);
        due("9", y.thaw(0), 19);
        y.freeze(0, 9);
        due("0", y.thaw(0), 10);
        HedgeTreaties rich = new HedgeTreaties();
        rich.sign(0, 1, -1);
        for (int cakes = 11; cakes <= 30; cakes++) {
            due("a cake", rich.freeze(0, 1), cakes);
            rich.day();
        }
        rich.height(1, 99);
        rich.freeze(0, 30);
        due("30 cakes", rich.thaw(0), 10);
        HedgeTreaties z = of("the reason, 5 or 6, if it is refused");
        z.sign(0, 1, 5);
        due("5", z.thaw(0), 5);
        z.freeze(0, 11);
        due("6", z.thaw(0), 6);
        due("it stays frozen", z.treaty(0, 6), 11);
        due("cakes", z.count(6), 10);
        due("refused", z.count(8), 2);
        due("states", z.count(12), 4);
        of("INVALID_ARGUMENT");
        invalid(w -> w.thaw(-1));
        invalid(w -> w.thaw(3));
        SENTENCES.error(INVALID, w -> w.day(), w -> w.thaw(0));
    }

    private static void appends() {
        promise = 12;
        HedgeTreaties x = of("Appends a character to the pad");
        write(x, "3<");
        due("not complete", x.fault(), 2);
        x.append('4');
        due("complete", x.fault(), NOT_FOUND);
        range("`code`: the character code, 33 to 126", 33, 126, n -> new HedgeTreaties().append(n));
        HedgeTreaties y = of("Returns the length of the pad then");
        for (int length = 1; length <= 60; length++) {
            due("append", y.append(33 + length), length);
            due("length", y.count(11), length);
        }
        of("INVALID_ARGUMENT");
        invalid(z -> z.append(32));
        invalid(z -> z.append(127));
        invalid(z -> z.append(0));
        invalid(z -> z.append(-1));
        of("LIMIT_REACHED if it has 60 characters");
        Consumer<HedgeTreaties> full = z -> write(z, "0<1;".repeat(15));
        SENTENCES.error(LIMIT, full, z -> z.append('1'));
        SENTENCES.error(INVALID, full, z -> z.append(127));
        HedgeTreaties z = new HedgeTreaties();
        write(z, "0<1;".repeat(14) + "0<1");
        due("the 60th", z.append(';'), 60);
        due("the 61st", z.append('2'), LIMIT);
    }

    private static void clears() {
        promise = 13;
        HedgeTreaties x = of("Empties the pad");
        write(x, "0<1+5");
        x.clear();
        due("length", x.count(11), 0);
        due("fault", x.fault(), 0);
        write(x, "2<3");
        x.signAll();
        due("what was before is gone", x.treaty(0, 0), 2);
        HedgeTreaties y = of("Returns the length that it had");
        due("empty", y.clear(), 0);
        y.append('0');
        due("1", y.clear(), 1);
        due("empty again", y.clear(), 0);
        for (int length = 1; length <= 60; length++) {
            y.append('0');
        }
        due("60", y.clear(), 60);
        due("no change", y.count(12), 0);
    }

    private static void dueFault(String text, int want) {
        HedgeTreaties x = new HedgeTreaties();
        write(x, text);
        due("fault of " + text, x.fault(), want);
        due("fault of " + text + ", again", x.fault(), want);
        due("length", x.count(11), text.length());
        due("no change", x.count(12), 0);
    }

    private static void faults() {
        promise = 14;
        of("Returns the fault of the pad");
        dueFault("0<1;x", 4);
        dueFault("0<1;", 4);
        dueFault("", 0);
        of("Returns the fault");
        dueFault("!", 0);
        dueFault("0!", 1);
        dueFault("0<!", 2);
        dueFault("0<1!", 3);
        dueFault("0<1+!", 4);
        dueFault("0<1+1!", 5);
        dueFault("0<1+10!", 6);
        dueFault("0<1+10;!", 7);
        dueFault("0<1;".repeat(14) + "0<1!", 59);
        of("NOT_FOUND if it has none");
        dueFault("0<0", NOT_FOUND);
        dueFault("7<7+60;7<7-30", NOT_FOUND);
        dueFault("0<1;".repeat(14) + "0<1", NOT_FOUND);
        dueFault("6<7+60;".repeat(8) + "1<0", NOT_FOUND);
    }

    private static void signAlls() {
        promise = 15;
        HedgeTreaties x = of("Signs the treaties of the pad, one after the other, as sign() does, up to the first one that is refused (which is counted) or returns an error, and empties the pad");
        write(x, "0<1-30;7<6+60");
        due("all", x.signAll(), 2);
        due("d", x.treaty(0, 2), 70);
        due("first", x.treaty(1, 0), 7);
        due("the pad", x.count(11), 0);
        write(x, "2<3;0<1-29;4<5");
        due("up to a refused one", x.signAll(), 1);
        due("refused", x.count(8), 1);
        due("none behind it", x.count(1), 3);
        due("the pad", x.count(11), 0);
        write(x, "4<5;4<4;5<4");
        due("up to an error", x.signAll(), 1);
        due("not refused", x.count(8), 1);
        due("none behind it", x.count(1), 4);
        due("the pad", x.count(11), 0);
        write(x, "4<5;4<4");
        due("up to the first of both", x.signAll(), 0);
        due("refused", x.count(8), 2);
        write(x, "1<0+30;4<5-1;5<4+1");
        due("as sign() does, beside those ahead of it", x.signAll(), 3);

        HedgeTreaties y = of("This is one change, also if none is signed");
        y.sign(0, 1, 5);
        write(y, "2<3;3<4;4<5");
        y.signAll();
        due("of three", y.count(12), 2);
        write(y, "0<1+6;5<6");
        due("none", y.signAll(), 0);
        due("of none", y.count(12), 3);
        write(y, "0<0");
        due("none, by an error", y.signAll(), 0);
        due("of an error", y.count(12), 4);
        y.undo();
        y.undo();
        due("not refused again", y.count(8), 0);
        due("three", y.count(1), 4);
        y.undo();
        due("all three are undone", y.count(1), 1);

        HedgeTreaties z = of("Returns how many are signed");
        write(z, "0<1;1<2;2<3;3<4;4<5;5<6;6<7;7<6;6<5;5<4;4<3;3<2;2<1;1<0;0<2");
        due("14 of 15", z.signAll(), 14);
        write(z, "0<2-1");
        due("none", z.signAll(), 0);
        due("none is refused", z.count(8), 0);
        z.cancel(0);
        write(z, "0<1+1;0<2");
        due("1 of 2, up to the limit", z.signAll(), 1);
        due("none is refused", z.count(8), 0);

        of("NOT_POSSIBLE if the pad has a fault");
        for (String text : new String[] {"", "0<1;", "0<1+", "0<1+61", "0<1;8<1", "x"}) {
            Consumer<HedgeTreaties> before = w -> {
                Sentences.makeBusy(w);
                write(w, text);
            };
            SENTENCES.error(NOT_POSSIBLE, before, HedgeTreaties::signAll);
        }
    }

    private static void dueWhy(HedgeTreaties x, String text, int reason, int number, int position) {
        write(x, text);
        x.signAll();
        due("reason of " + text, x.why(0), reason);
        due("number of " + text, x.why(1), number);
        due("position of " + text, x.why(2), position);
    }

    private static void whys() {
        promise = 16;
        HedgeTreaties x = of("Tells about the treaty at which the latest call of signAll() that returned no error stopped");
        dueWhy(x, "0<1;0<1", 2, 1, 4);
        dueWhy(x, "2<3;3<2-1", 1, 1, 4);
        write(x, "0<1;0<1;");
        due("an error", x.signAll(), NOT_POSSIBLE);
        due("it is about the one before", x.why(0), 1);
        x.sign(0, 1, 0);
        x.sign(0, 0, 0);
        due("it is not about sign()", x.why(0), 1);

        HedgeTreaties y = of("(This is not a part of what is undone, or restored.)");
        y.save();
        dueWhy(y, "0<1;0<1", 2, 1, 4);
        y.undo();
        due("behind undo()", y.why(2), 4);
        y.restore();
        due("behind restore()", y.why(2), 4);
        write(y, "2<3");
        y.signAll();
        y.undo();
        due("all were signed, behind undo()", y.why(0), NOT_FOUND);
        y.save();
        dueWhy(y, "0<0", INVALID, 0, 0);
        y.restore();
        due("behind save() and restore()", y.why(0), INVALID);

        whysByNumber();
        HedgeTreaties z = of("Returns the number");
        dueWhy(z, "0<1;2<3;0<1+5;0<0", 2, 2, 8);
        due("states", z.count(12), 1);
        of("INVALID_ARGUMENT");
        invalid(w -> w.why(-1));
        invalid(w -> w.why(3));
        invalid(w -> w.why(Integer.MIN_VALUE));
        SENTENCES.error(INVALID, w -> w.day(), w -> w.why(3));
        HedgeTreaties w = of("NOT_FOUND if there was no such call, or all were signed");
        due("no call", w.why(0), NOT_FOUND);
        due("no call", w.why(1), NOT_FOUND);
        due("no call", w.why(2), NOT_FOUND);
        w.signAll();
        due("an error alone", w.why(0), NOT_FOUND);
        write(w, "0<1");
        w.signAll();
        due("all", w.why(0), NOT_FOUND);
        dueWhy(w, "0<1", 2, 0, 0);
        write(w, "1<0");
        w.signAll();
        for (int what = 0; what <= 2; what++) {
            due("all, behind a stop", w.why(what), NOT_FOUND);
        }
    }

    private static void whysByNumber() {
        HedgeTreaties x = of("`what`: 0: the reason, or the error");
        dueWhy(x, "0<1;1<0-1", 1, 1, 4);
        dueWhy(x, "0<1+1", 2, 0, 0);
        dueWhy(x, "5<5", INVALID, 0, 0);
        HedgeTreaties full = new HedgeTreaties();
        Sentences.makeFull(full);
        dueWhy(full, "0<7", LIMIT, 0, 0);
        dueWhy(full, "0<0", INVALID, 0, 0);
        HedgeTreaties y = of("1: its number among those of the pad, from 0");
        dueWhy(y, "5<5", INVALID, 0, 0);
        dueWhy(y, "0<1;5<5", INVALID, 1, 4);
        HedgeTreaties z = of("2: the position of its first sign in the pad");
        dueWhy(z, "5<5+60;0<1", INVALID, 0, 0);
        dueWhy(z, "0<1+60;1<0-3;2<3+4;5<5", INVALID, 3, 19);
        HedgeTreaties last = new HedgeTreaties();
        dueWhy(last, "0<1;1<2;2<3;3<4;4<5;5<6;6<7;7<6;6<5;5<4;4<3;3<2;2<1;1<0;0<2", LIMIT, 14, 56);
    }

    /** Hedge 3: broken by one treaty as first, by one as other; one frozen and one that holds. */
    private static void makeSquabble(HedgeTreaties x) {
        x.sign(3, 1, -1);
        x.sign(0, 3, -2);
        x.sign(3, 5, -3);
        x.sign(3, 6, 0);
        x.sign(1, 2, -4);
        x.freeze(2, 2);
    }

    /** Of the three treaties, the first one is broken today alone, the second one from tomorrow on. */
    private static void makeTurn(HedgeTreaties x) {
        x.sign(0, 1, 0);
        x.sign(2, 3, 0);
        x.sign(4, 5, 0);
        x.height(0, 11);
        x.growth(1, 3);
        x.growth(2, 3);
    }

    private static void hedges() {
        promise = 17;
        HedgeTreaties x = of("Returns a property of a hedge");
        makeSquabble(x);
        int[] of3 = {10, 1, 0, 0, 5, 2, 3, 0};
        for (int what = 0; what <= 7; what++) {
            due("of 3, " + what, x.hedge(3, what), of3[what]);
        }
        range("`hedge`: 0 to 7", 0, 7, n -> new HedgeTreaties().hedge(n, 0));
        hedgesByNumber();
        HedgeTreaties y = of("Returns the number");
        SENTENCES.takes(0, 7, n -> y.hedge(2, n));
        due("no change", y.count(12), 0);
        of("INVALID_ARGUMENT");
        invalid(z -> z.hedge(-1, 0));
        invalid(z -> z.hedge(8, 4));
        invalid(z -> z.hedge(0, -1));
        invalid(z -> z.hedge(0, 8));
    }

    private static void hedgesByNumber() {
        HedgeTreaties x = of("`what`: 0: its height");
        x.height(0, 0);
        x.height(7, 99);
        due("0", x.hedge(0, 0), 0);
        due("99", x.hedge(7, 0), 99);
        x = of("1: its growth");
        x.growth(0, 0);
        x.growth(7, 5);
        due("0", x.hedge(0, 1), 0);
        due("5", x.hedge(7, 1), 5);
        x = of("2: 1 if birds nest in it today, otherwise 0");
        due("at first", x.hedge(0, 2), 0);
        x.nest(0, 1);
        due("until tomorrow", x.hedge(0, 2), 1);
        x.day();
        due("until today", x.hedge(0, 2), 0);
        x = of("3: the day until which they do");
        due("at first", x.hedge(7, 3), 0);
        x.day();
        x.nest(7, 30);
        due("31", x.hedge(7, 3), 31);
        x.nest(7, 0);
        due("today", x.hedge(7, 3), 1);
        x.day();
        due("yesterday", x.hedge(7, 3), 1);
        x = of("4: its height by the least clipping, NOT_FOUND if there is none");
        due("without treaties", x.hedge(0, 4), 10);
        x.sign(0, 1, -10);
        due("0", x.hedge(0, 4), 0);
        x.height(1, 9);
        due("none", x.hedge(0, 4), NOT_FOUND);
        due("none, of another", x.hedge(7, 4), NOT_FOUND);
        x = of("5: broken treaties about it, as first or as other one");
        due("without treaties", x.hedge(3, 5), 0);
        makeSquabble(x);
        int[] broken = {1, 2, 1, 2, 0, 0, 0, 0};
        for (int hedge = 0; hedge <= 7; hedge++) {
            due("about " + hedge, x.hedge(hedge, 5), broken[hedge]);
        }
        HedgeTreaties turn = new HedgeTreaties();
        makeTurn(turn);
        due("broken today alone", turn.hedge(0, 5), 1);
        due("broken from tomorrow on", turn.hedge(2, 5), 0);
        x = of("6: treaties in force about it");
        due("without treaties", x.hedge(3, 6), 0);
        makeSquabble(x);
        int[] inForce = {1, 2, 1, 3, 0, 0, 1, 0};
        for (int hedge = 0; hedge <= 7; hedge++) {
            due("about " + hedge, x.hedge(hedge, 6), inForce[hedge]);
        }
        x = of("7: how much was clipped off it so far");
        due("at first", x.hedge(0, 7), 0);
        x.clip(0, 10);
        x.height(0, 99);
        due("height() clips nothing", x.hedge(0, 7), 10);
        x.clip(0, 9);
        x.sign(0, 1, 60);
        x.plan();
        due("by hand and by plan", x.hedge(0, 7), 10 + 9 + 20);
        x.clip(0, 99);
        due("a refused one clips nothing", x.hedge(0, 7), 39);
        due("another", x.hedge(1, 7), 0);
    }

    private static void treaties() {
        promise = 18;
        HedgeTreaties x = of("Returns a property of a treaty");
        makeSquabble(x);
        int[] of2 = {3, 5, 97, 0, 0, 997, 2, 0};
        for (int what = 0; what <= 7; what++) {
            due("of 2, " + what, x.treaty(2, what), of2[what]);
        }
        range("`treaty`: its number", 0, 13, n -> fourteen().treaty(n, 0));
        treatiesByNumber();
        HedgeTreaties y = of("Returns the number");
        y.sign(0, 1, 0);
        SENTENCES.takes(0, 7, n -> y.treaty(0, n));
        due("no change", y.count(12), 1);
        of("INVALID_ARGUMENT");
        invalid(z -> z.treaty(-1, 0));
        invalid(z -> z.treaty(3, 0));
        invalid(z -> z.treaty(0, -1));
        invalid(z -> z.treaty(0, 8));
        SENTENCES.error(INVALID, z -> z.day(), z -> z.treaty(0, 0));
    }

    private static void treatiesByNumber() {
        HedgeTreaties x = of("`what`: 0: its first hedge");
        x.sign(0, 7, 1);
        x.sign(7, 0, 2);
        due("0", x.treaty(0, 0), 0);
        due("7", x.treaty(1, 0), 7);
        x = of("1: the other one");
        x.sign(0, 7, 1);
        x.sign(7, 0, 2);
        due("7", x.treaty(0, 1), 7);
        due("0", x.treaty(1, 1), 0);
        x = of("2: d, and 100");
        x.sign(0, 1, -30);
        x.sign(2, 3, 60);
        x.sign(4, 5, 0);
        due("-30", x.treaty(0, 2), 70);
        due("60", x.treaty(1, 2), 160);
        due("0", x.treaty(2, 2), 100);
        x = of("3: 1 if it is in force, otherwise 0");
        x.sign(0, 1, 1);
        due("at first", x.treaty(0, 3), 1);
        x.freeze(0, 1);
        due("until tomorrow", x.treaty(0, 3), 0);
        x.day();
        due("until today", x.treaty(0, 3), 1);
        x = of("4: 1 if it is broken, otherwise 0");
        x.sign(0, 1, 1);
        x.height(0, 11);
        due("d higher", x.treaty(0, 4), 0);
        x.height(0, 12);
        due("more", x.treaty(0, 4), 1);
        x.freeze(0, 1);
        due("frozen", x.treaty(0, 4), 0);
        x.day();
        due("in force again", x.treaty(0, 4), 1);
        HedgeTreaties turn = new HedgeTreaties();
        makeTurn(turn);
        due("broken today alone", turn.treaty(0, 4), 1);
        due("broken from tomorrow on", turn.treaty(1, 4), 0);
        slacks();
        x = of("6: the day until which it is frozen");
        x.sign(0, 1, 1);
        due("at first", x.treaty(0, 6), 0);
        x.day();
        x.freeze(0, 30);
        due("31", x.treaty(0, 6), 31);
        x.freeze(0, 4);
        x.thaw(0);
        due("thawed today", x.treaty(0, 6), 1);
        nothingNew();
    }

    private static void slacks() {
        HedgeTreaties x = of("5: by how much the first hedge could be higher still without breaking it, or has to be lower, 1000 added to it (also if it is frozen)");
        x.sign(0, 1, 60);
        x.sign(2, 3, -30);
        x.height(0, 0);
        x.height(1, 99);
        x.height(2, 99);
        x.height(3, 0);
        due("by the most", x.treaty(0, 5), 1159);
        due("lower by the most", x.treaty(1, 5), 871);
        x.freeze(0, 5);
        x.freeze(1, 5);
        due("frozen", x.treaty(0, 5), 1159);
        due("frozen, lower", x.treaty(1, 5), 871);
        x.height(3, 99);
        x.height(2, 69);
        due("by nothing", x.treaty(1, 5), 1000);
        x.height(2, 70);
        due("lower by 1", x.treaty(1, 5), 999);
        x.height(2, 68);
        due("by 1", x.treaty(1, 5), 1001);
        HedgeTreaties turn = new HedgeTreaties();
        makeTurn(turn);
        due("lower by 1 today", turn.treaty(0, 5), 999);
        due("by nothing today", turn.treaty(1, 5), 1000);
    }

    private static void nothingNew() {
        HedgeTreaties x = of("7: 1 if it would say nothing new beside the others in force (whether it is frozen itself or not), otherwise 0");
        x.sign(0, 2, 5);
        due("alone", x.treaty(0, 7), 0);
        x.sign(0, 1, 2);
        x.sign(1, 2, 4);
        due("the others say 6", x.treaty(0, 7), 0);
        x.sign(1, 2, 3);
        due("the others say 5", x.treaty(0, 7), 1);
        due("3 beside 4", x.treaty(3, 7), 0);
        due("4 beside 3", x.treaty(2, 7), 1);
        x.freeze(0, 1);
        due("frozen itself", x.treaty(0, 7), 1);
        x.freeze(3, 1);
        due("frozen itself, beside 4", x.treaty(3, 7), 0);
        due("3 is frozen", x.treaty(2, 7), 0);
        due("the others in force say 6", x.treaty(0, 7), 0);
        x.day();
        due("3 is thawed", x.treaty(0, 7), 1);
        HedgeTreaties twins = new HedgeTreaties();
        twins.sign(0, 1, 5);
        twins.freeze(0, 9);
        twins.sign(0, 1, 5);
        due("a frozen twin", twins.treaty(0, 7), 1);
        due("a twin beside a frozen one", twins.treaty(1, 7), 0);
        twins.thaw(0);
        due("both in force", twins.treaty(0, 7), 1);
        due("both in force", twins.treaty(1, 7), 1);
    }

    private static void bounds() {
        promise = 19;
        HedgeTreaties x = of("Returns the bound of a hedge over another one");
        x.sign(0, 1, 5);
        x.sign(1, 2, -7);
        due("bound", x.bound(0, 2, 0), 998);
        due("no change", x.count(12), 2);
        range("`first`: 0 to 7", 0, 7, n -> new HedgeTreaties().bound(n, 3, 0));
        range("`other`: 0 to 7", 0, 7, n -> new HedgeTreaties().bound(3, n, 1));
        of("`way`: 0: told from the first one on, treaty by treaty, until nothing becomes less");
        dueBounds(0);
        of("1: told for all pairs, by one hedge between them after the other");
        dueBounds(1);
        of("Returns the bound, and 1000 (the same for both)");
        for (int run = 0; run < 40; run++) {
            HedgeTreaties y = manyTreaties(run);
            for (int pair = 0; pair < 64; pair++) {
                int first = pair / 8;
                int other = pair % 8;
                due("run " + run + ", pair " + pair, y.bound(first, other, 0), y.bound(first, other, 1));
            }
        }
        of("INVALID_ARGUMENT");
        for (int way = 0; way <= 1; way++) {
            int same = way;
            invalid(z -> z.bound(-1, 3, same));
            invalid(z -> z.bound(8, 3, same));
            invalid(z -> z.bound(3, -1, same));
            invalid(z -> z.bound(3, 8, same));
        }
        invalid(z -> z.bound(3, 3, -1));
        invalid(z -> z.bound(3, 3, 2));
        of("NOT_FOUND if there is none");
        SENTENCES.error(NOT_FOUND, Sentences::makeBusy, z -> z.bound(1, 0, 0));
        SENTENCES.error(NOT_FOUND, Sentences::makeBusy, z -> z.bound(1, 0, 1));
    }

    private static void dueBounds(int way) {
        for (int turn = 0; turn <= 1; turn++) {
            HedgeTreaties x = new HedgeTreaties();
            due("over itself, without treaties", x.bound(7, 7, way), 1000);
            for (int step = 0; step < 7; step++) {
                int first = turn == 0 ? step : 6 - step;
                x.sign(first, first + 1, first % 2 == 0 ? 60 : -30);
            }
            due("the longest row", x.bound(0, 7, way), 1150);
            due("one treaty", x.bound(1, 2, way), 970);
            due("the other way", x.bound(7, 0, way), NOT_FOUND);
            x.sign(0, 7, 60);
            due("a shorter row is less", x.bound(0, 7, way), 1060);
            x.sign(7, 0, 60);
            due("around", x.bound(1, 0, way), 1150);
            due("over itself", x.bound(0, 0, way), 1000);
            x.freeze(8, 1);
            due("the frozen one leads nowhere", x.bound(7, 0, way), NOT_FOUND);
        }
    }

    /** Treaties that differ from run to run, some of which are refused or frozen. */
    private static HedgeTreaties manyTreaties(int run) {
        HedgeTreaties x = new HedgeTreaties();
        int number = 17 * run + 5;
        for (int treaty = 0; treaty < 20; treaty++) {
            number = (number * 1103 + 12345) % 65536;
            x.sign(number / 7 % 8, number / 61 % 8, number / 11 % 45 - 15);
        }
        for (int treaty = run % 5; treaty < x.count(1); treaty += 5) {
            x.freeze(treaty, 3);
        }
        for (int hedge = 0; hedge <= 7; hedge++) {
            x.height(hedge, (hedge * 37 + run * 13) % 60 + 30);
        }
        return x;
    }

    private static void whyNots() {
        promise = 20;
        HedgeTreaties x = of("Tells why a treaty would not be signed");
        x.sign(0, 1, 5);
        for (int d = -30; d <= 60; d++) {
            due("the same way, " + d, x.whyNot(0, 1, d), d < 5 ? 0 : 2);
            due("the other way, " + d, x.whyNot(1, 0, d), d < -5 ? 1 : 0);
        }
        due("none is signed", x.count(1), 1);
        due("none is refused", x.count(8), 0);
        due("no change", x.count(12), 1);
        anotherHedge("`first`: 0 to 7", 3, n -> new HedgeTreaties().whyNot(n, 3, 5));
        anotherHedge("`other`: 0 to 7, another one", 4, n -> new HedgeTreaties().whyNot(4, n, 5));
        range("`d`: -30 to 60", -30, 60, n -> new HedgeTreaties().whyNot(4, 3, n));
        HedgeTreaties y = of("Returns the reason, 1 or 2");
        y.sign(0, 1, 5);
        y.freeze(0, 3);
        due("1, by a frozen one", y.whyNot(1, 0, -6), 1);
        due("no 2 by a frozen one", y.whyNot(0, 1, 60), 0);
        y.thaw(0);
        due("2", y.whyNot(0, 1, 60), 2);
        HedgeTreaties z = of("0 if it would");
        due("of two free hedges", z.whyNot(0, 1, -30), 0);
        due("of two free hedges", z.whyNot(0, 1, 60), 0);
        Sentences.makeFull(z);
        due("no limit is told", z.whyNot(0, 7, 0), 0);
        due("no limit is told", z.whyNot(6, 7, 60), 2);
        due("no limit is told", z.whyNot(1, 0, -30), 1);
        of("INVALID_ARGUMENT");
        invalid(w -> w.whyNot(-1, 3, 5));
        invalid(w -> w.whyNot(8, 3, 5));
        invalid(w -> w.whyNot(3, -1, 5));
        invalid(w -> w.whyNot(3, 8, 5));
        invalid(w -> w.whyNot(3, 3, 5));
        invalid(w -> w.whyNot(3, 4, -31));
        invalid(w -> w.whyNot(3, 4, 61));
        SENTENCES.error(INVALID, Sentences::makeFull, w -> w.whyNot(3, 3, 5));
    }

    private static void clippings() {
        promise = 21;
        of("Returns by how much all hedges would be clipped by plan");
        for (int run = 0; run < 40; run++) {
            HedgeTreaties x = manyTreaties(run);
            int told = x.clipping(0);
            int states = x.count(12);
            due("run " + run + ", no change", states, 4);
            due("run " + run, x.plan(), told == NOT_FOUND ? 4 : told + 10);
        }
        of("`way`: 0: told hedge by hedge, again and again, until none has to be lower");
        dueClippings(0);
        of("1: told by the bounds of each hedge over all others");
        dueClippings(1);
        of("Returns how much, together (the same for both)");
        for (int run = 0; run < 40; run++) {
            HedgeTreaties x = manyTreaties(run);
            due("run " + run, x.clipping(0), x.clipping(1));
        }
        of("INVALID_ARGUMENT");
        invalid(x -> x.clipping(-1));
        invalid(x -> x.clipping(2));
        SENTENCES.error(INVALID, x -> x.sign(0, 1, -11), x -> x.clipping(2));
        of("NOT_FOUND if there is no least clipping");
        SENTENCES.error(NOT_FOUND, x -> x.sign(0, 1, -11), x -> x.clipping(0));
        SENTENCES.error(NOT_FOUND, x -> x.sign(0, 1, -11), x -> x.clipping(1));
    }

    private static void dueClippings(int way) {
        for (int turn = 0; turn <= 1; turn++) {
            HedgeTreaties x = new HedgeTreaties();
            due("without treaties", x.clipping(way), 0);
            for (int step = 0; step < 7; step++) {
                int first = turn == 0 ? step : 6 - step;
                x.sign(first, first + 1, -1);
            }
            due("along the longest row", x.clipping(way), 28);
            x.height(7, 7);
            due("down to 0", x.clipping(way), 49);
            x.height(7, 6);
            due("below 0", x.clipping(way), NOT_FOUND);
            x.height(0, 0);
            due("below 0 though it is low", x.clipping(way), NOT_FOUND);
            x.freeze(turn == 0 ? 0 : 6, 1);
            due("without the frozen one", x.clipping(way), 5 + 6 + 7 + 8 + 9 + 10);
            x.nest(3, 5);
            due("birds do not matter", x.clipping(way), 45);
        }
    }

    private static void counts() {
        promise = 22;
        HedgeTreaties x = of("Returns a number");
        makeSquabble(x);
        int[] counts = {0, 5, 4, 3, 80, 0, 10 + 1, 5, 0, 0, 0, 0, 4};
        for (int what = 0; what <= 12; what++) {
            due("count " + what, x.count(what), counts[what]);
        }
        countsNow();
        countsSoFar();
        HedgeTreaties y = of("Returns the number");
        SENTENCES.takes(0, 12, y::count);
        of("INVALID_ARGUMENT");
        invalid(z -> z.count(-1));
        invalid(z -> z.count(13));
    }

    private static void countsNow() {
        HedgeTreaties x = of("`what`: 0: the day");
        due("at first", x.count(0), 0);
        x.day();
        due("then", x.count(0), 1);
        x = of("1: treaties");
        due("at first", x.count(1), 0);
        Sentences.makeFull(x);
        due("14", x.count(1), 14);
        x.freeze(13, 3);
        due("frozen ones, too", x.count(1), 14);
        x = of("2: those in force");
        due("at first", x.count(2), 0);
        x.sign(0, 1, 5);
        x.sign(2, 3, 5);
        due("both", x.count(2), 2);
        x.freeze(0, 1);
        x.freeze(1, 2);
        due("none", x.count(2), 0);
        x.day();
        due("one", x.count(2), 1);
        x = of("3: broken ones");
        due("at first", x.count(3), 0);
        makeSquabble(x);
        due("but for the frozen one", x.count(3), 3);
        x.day();
        x.day();
        due("all but one", x.count(3), 4);
        HedgeTreaties turn = new HedgeTreaties();
        makeTurn(turn);
        turn.growth(2, 0);
        due("broken today", turn.count(3), 1);
        due("broken tomorrow", turn.ifDays(1, 0), 0);
        x = of("4: heights of all hedges together");
        for (int hedge = 0; hedge <= 7; hedge++) {
            x.height(hedge, 99);
        }
        due("the most", x.count(4), 792);
        for (int hedge = 0; hedge <= 7; hedge++) {
            x.height(hedge, 0);
        }
        due("the least", x.count(4), 0);
        x = of("5: hedges in which birds nest today");
        due("at first", x.count(5), 0);
        for (int hedge = 0; hedge <= 7; hedge++) {
            x.nest(hedge, 1 + hedge % 2);
        }
        due("all", x.count(5), 8);
        x.day();
        due("every other one", x.count(5), 4);
        x.nest(1, 0);
        due("one less", x.count(5), 3);
        x = of("6: cakes");
        due("at first", x.count(6), 10);
        x.sign(0, 1, -1);
        x.freeze(0, 11);
        due("11", x.count(6), 11);
        x.thaw(0);
        due("0", x.count(6), 0);
    }

    private static void countsSoFar() {
        HedgeTreaties x = of("and so far 7: treaties signed");
        x.sign(0, 1, 5);
        x.sign(0, 1, 5);
        x.sign(0, 0, 5);
        write(x, "2<3;4<5;4<5");
        x.signAll();
        x.cancel(0);
        due("signed", x.count(7), 3);
        x.undo();
        x.undo();
        due("undone", x.count(7), 1);
        x = of("8: refused deeds");
        x.sign(0, 1, -5);
        x.sign(1, 0, 4);
        x.sign(0, 1, -5);
        x.thaw(0);
        x.freeze(0, 30);
        x.thaw(0);
        x.clip(0, 11);
        due("reasons 1, 2, 5, 6 and 4", x.count(8), 5);
        x.nest(0, 9);
        x.clip(0, 1);
        x.cancel(0);
        x.sign(0, 1, -5);
        x.plan();
        x.height(1, 4);
        x.plan();
        due("and 3, 3 and 4", x.count(8), 8);
        write(x, "2<3;2<3");
        x.signAll();
        due("of a text", x.count(8), 9);
        write(x, "2<2");
        x.signAll();
        x.clip(0, 100);
        x.whyNot(2, 3, 5);
        due("neither errors nor looks", x.count(8), 9);
        x = of("9: clips, by hand or by plan, of hedges that became lower");
        due("at first", x.count(9), 0);
        x.clip(0, 1);
        x.clip(0, 99);
        due("by hand", x.count(9), 1);
        x.sign(1, 0, 0);
        x.sign(2, 0, 0);
        x.sign(0, 3, 60);
        x.plan();
        due("two by plan", x.count(9), 3);
        x.plan();
        x.height(1, 0);
        due("none", x.count(9), 3);
        x = of("10: how much was clipped off");
        due("at first", x.count(10), 0);
        x.clip(0, 4);
        x.clip(7, 10);
        x.clip(7, 1);
        x.sign(1, 0, 0);
        x.plan();
        due("by hand and by plan", x.count(10), 4 + 10 + 4);
        x.undo();
        due("undone", x.count(10), 14);
        x = of("and 11: the length of the pad");
        due("at first", x.count(11), 0);
        write(x, "~".repeat(60));
        due("60", x.count(11), 60);
        x.append('~');
        due("full", x.count(11), 60);
        x = of("12: states in the history");
        for (int change = 0; change <= 5; change++) {
            due("states", x.count(12), Math.min(change, 4));
            x.day();
        }
        x.undo();
        due("undone", x.count(12), 3);
    }

    private static void peaces() {
        promise = 23;
        HedgeTreaties x = of("Returns how peaceful the street is");
        x.sign(0, 1, 5);
        due("at peace", x.peace(), 1.0);
        x.height(0, 16);
        due("not at peace", x.peace(), 0.0);
        due("no change", x.count(12), 2);
        of("Returns the treaties in force that are not broken, as a double, divided by those in force");
        for (int broken = 0; broken <= 14; broken++) {
            HedgeTreaties y = fourteen();
            y.height(0, 10 + broken);
            due(broken + " of 14", y.peace(), (14 - broken) / 14.0);
        }
        HedgeTreaties y = fourteen();
        y.height(0, 12);
        y.freeze(13, 5);
        due("1 of 13", y.peace(), 12 / 13.0);
        y.freeze(0, 5);
        due("1 of 12", y.peace(), 11 / 12.0);
        HedgeTreaties turn = new HedgeTreaties();
        makeTurn(turn);
        turn.growth(2, 0);
        due("1 of 3 today", turn.peace(), 2 / 3.0);
        HedgeTreaties z = of("1.0 without any");
        due("without treaties", z.peace(), 1.0);
        z.sign(0, 1, -5);
        due("a broken one", z.peace(), 0.0);
        z.freeze(0, 1);
        due("none in force", z.peace(), 1.0);
        z.day();
        due("in force again", z.peace(), 0.0);
        z.cancel(0);
        due("cancelled", z.peace(), 1.0);
    }

    private static void ifDays() {
        promise = 24;
        HedgeTreaties x = of("Tells what days would bring");
        x.sign(0, 1, 0);
        x.growth(0, 2);
        due("broken", x.ifDays(1, 0), 1);
        due("the day", x.count(0), 0);
        due("not broken now", x.count(3), 0);
        due("no change", x.count(12), 2);
        range("`days`: 1 to 30", 1, 30, n -> new HedgeTreaties().ifDays(n, 0));
        HedgeTreaties y = of("`what`: 0: how many treaties would be broken then");
        y.sign(0, 1, 30);
        y.sign(0, 1, 29);
        y.sign(2, 3, -1);
        y.growth(0, 2);
        y.freeze(2, 30);
        for (int days = 1; days <= 30; days++) {
            due("in " + days, y.ifDays(days, 0), days < 30 ? 0 : 2);
        }
        y.height(0, 99);
        y.height(1, 60);
        due("it stops at 99", y.ifDays(8, 0), 2);
        due("it stops at 99", y.ifDays(9, 0), 1);
        due("it stops at 99", y.ifDays(10, 0), 0);
        HedgeTreaties z = of("1: the heights of all hedges together then");
        due("in 1", z.ifDays(1, 1), 88);
        due("in 30", z.ifDays(30, 1), 320);
        z.height(0, 69);
        z.height(1, 70);
        z.growth(2, 5);
        z.growth(3, 0);
        due("up to 99", z.ifDays(30, 1), 99 + 99 + 99 + 10 + 4 * 40);
        due("just up to 99", z.ifDays(29, 1), 98 + 99 + 99 + 10 + 4 * 39);
        HedgeTreaties w = of("Returns the number");
        SENTENCES.takes(0, 1, n -> w.ifDays(1, n));
        of("INVALID_ARGUMENT");
        invalid(v -> v.ifDays(0, 0));
        invalid(v -> v.ifDays(31, 0));
        invalid(v -> v.ifDays(-1, 1));
        invalid(v -> v.ifDays(1, -1));
        invalid(v -> v.ifDays(1, 2));
    }

    private static void breaksIns() {
        promise = 25;
        HedgeTreaties x = of("Tells when a treaty would be broken");
        x.sign(0, 1, 3);
        x.growth(0, 2);
        due("in 4", x.breaksIn(), 4);
        due("the day", x.count(0), 0);
        due("no change", x.count(12), 2);
        HedgeTreaties y = of("Returns behind how many days some treaty is broken for the first time, 0 if now, up to 60");
        y.sign(0, 1, 59);
        y.growth(1, 0);
        y.height(0, 11);
        due("59", y.breaksIn(), 59);
        y.height(0, 10);
        due("60", y.breaksIn(), 60);
        y.day();
        due("59, a day later", y.breaksIn(), 59);
        y.sign(2, 3, 0);
        y.height(2, 12);
        due("now", y.breaksIn(), 0);
        y.height(2, 11);
        y.growth(2, 2);
        due("some treaty, in 1", y.breaksIn(), 1);
        y.freeze(1, 30);
        due("when it is thawed", y.breaksIn(), 30);
        HedgeTreaties z = of("NOT_FOUND if none would be");
        due("without treaties", z.breaksIn(), NOT_FOUND);
        z.sign(0, 1, 59);
        z.growth(1, 0);
        z.height(1, 11);
        due("61", z.breaksIn(), NOT_FOUND);
        z.height(0, 99);
        z.height(1, 40);
        due("it stops at 99", z.breaksIn(), NOT_FOUND);
        z.height(1, 39);
        due("broken now", z.breaksIn(), 0);
        z.freeze(0, 1);
        due("broken tomorrow", z.breaksIn(), 1);
        z.growth(1, 1);
        due("healed by tomorrow", z.breaksIn(), NOT_FOUND);
    }

    private static void tightests() {
        promise = 26;
        HedgeTreaties x = of("Finds the least d with which a treaty could be signed");
        x.sign(0, 1, 12);
        due("against 12", x.tightest(1, 0), 88);
        due("no change", x.count(12), 1);
        due("none is signed", x.count(1), 1);
        anotherHedge("`first`: 0 to 7", 3, n -> new HedgeTreaties().tightest(n, 3));
        anotherHedge("`other`: 0 to 7, another one", 4, n -> new HedgeTreaties().tightest(4, n));
        of("Returns the least d, and 100, with which whyNot() is not 1");
        for (int d = -30; d <= 60; d++) {
            HedgeTreaties y = new HedgeTreaties();
            y.sign(0, 1, d);
            due("against " + d, y.tightest(1, 0), 100 + Math.max(-30, -d));
            due("beside " + d, y.tightest(0, 1), 70);
            y.freeze(0, 1);
            due("against " + d + ", frozen", y.tightest(1, 0), 100 + Math.max(-30, -d));
        }
        for (int run = 0; run < 40; run++) {
            dueTightest(manyTreaties(run), run);
        }
        of("INVALID_ARGUMENT");
        invalid(y -> y.tightest(-1, 3));
        invalid(y -> y.tightest(8, 3));
        invalid(y -> y.tightest(3, -1));
        invalid(y -> y.tightest(3, 8));
        invalid(y -> y.tightest(3, 3));
        HedgeTreaties z = of("NOT_FOUND if there is none");
        z.sign(0, 1, -30);
        z.sign(1, 2, -30);
        due("60", z.tightest(2, 0), 160);
        z.sign(2, 3, -1);
        due("61", z.tightest(3, 0), NOT_FOUND);
        z.freeze(2, 9);
        due("61, frozen", z.tightest(3, 0), NOT_FOUND);
        Sentences.makeFull(z);
        due("60, with 14 treaties", z.tightest(2, 0), 160);
        SENTENCES.error(INVALID, Sentences::makeFull, y -> y.tightest(3, 3));
    }

    private static void dueTightest(HedgeTreaties x, int run) {
        int first = run % 8;
        int other = (run * 3 + 1) % 8;
        if (first == other) {
            return;
        }
        int want = NOT_FOUND;
        for (int d = 60; d >= -30 && x.whyNot(first, other, d) != 1; d--) {
            want = 100 + d;
        }
        due("run " + run, x.tightest(first, other), want);
    }

    private static void undoes() {
        promise = 27;
        HedgeTreaties x = of("Undoes the latest change: everything but the pad, the snapshot and why() is as it was before it");
        Sentences.makeBusy(x);
        String before = Looks.street(x);
        x.sign(0, 7, 3);
        write(x, "0<5;1<6;0<5");
        x.signAll();
        x.save();
        x.append('4');
        due("undo", x.undo(), 3);
        due("undo", x.undo(), 2);
        SENTENCES.due("as before", Looks.street(x), before);
        due("the pad", x.count(11), 1);
        due("why()", x.why(1), 2);
        due("the snapshot", x.restore(), 6);
        for (int change = 0; change < 12; change++) {
            dueUndone(change);
            dueRestored(change);
        }
        HedgeTreaties y = of("Returns how many states the history has then");
        for (int change = 0; change < 6; change++) {
            y.clip(0, 1);
        }
        for (int left = 3; left >= 0; left--) {
            due("undo", y.undo(), left);
            due("count", y.count(12), left);
        }
        y.day();
        due("the only one", y.undo(), 0);
        of("NOT_POSSIBLE if it has none");
        SENTENCES.error(NOT_POSSIBLE, z -> write(z, "0<1"), HedgeTreaties::undo);
        HedgeTreaties z = new HedgeTreaties();
        z.save();
        z.height(0, 100);
        due("neither snapshot nor error is a change", z.undo(), NOT_POSSIBLE);
        z.day();
        z.undo();
        due("all are undone", z.undo(), NOT_POSSIBLE);
    }

    private static void dueUndone(int change) {
        HedgeTreaties x = new HedgeTreaties();
        makeReady(x);
        String before = Looks.street(x);
        makeChange(x, change);
        due("a change " + change, Looks.street(x).equals(before) ? 1 : 0, 0);
        due("undo of the change " + change, x.undo(), 3);
        SENTENCES.due("as before the change " + change, Looks.street(x), before);
    }

    private static void dueRestored(int change) {
        HedgeTreaties other = new HedgeTreaties();
        makeReady(other);
        other.save();
        makeChange(other, change);
        HedgeTreaties x = new HedgeTreaties();
        makeReady(x);
        String saved = Looks.street(x);
        x.save();
        makeChange(x, change);
        x.restore();
        SENTENCES.due("as saved ahead of the change " + change, Looks.street(x), saved);
        x.undo();
        SENTENCES.due("undo of restore() behind the change " + change, Looks.street(x), Looks.street(other));
    }

    private static void makeReady(HedgeTreaties x) {
        Sentences.makeBusy(x);
        x.sign(2, 4, -3);
        x.sign(7, 6, 20);
        write(x, "4<5;6<7-5");
    }

    /** One of the twelve changes, each of which makes the street look another one. */
    private static void makeChange(HedgeTreaties x, int change) {
        switch (change) {
            case 0: x.height(1, 77); break;
            case 1: x.growth(1, 5); break;
            case 2: x.nest(1, 30); break;
            case 3: x.sign(1, 7, 30); break;
            case 4: x.cancel(0); break;
            case 5: x.freeze(3, 30); break;
            case 6: x.thaw(0); break;
            case 7: x.clip(1, 3); break;
            case 8: x.plan(); break;
            case 9: x.day(); break;
            case 10: x.signAll(); break;
            default: x.restore(); break;
        }
    }

    private static void saves() {
        promise = 28;
        HedgeTreaties x = of("Takes a snapshot of everything but the pad, the history and why(), in place of the one that was");
        x.save();
        Sentences.makeBusy(x);
        String saved = Looks.street(x);
        x.save();
        x.day();
        x.cancel(0);
        x.plan();
        write(x, "5<5");
        x.signAll();
        x.append('4');
        x.restore();
        SENTENCES.due("as saved", Looks.street(x), saved);
        due("the pad", x.count(11), 1);
        due("why()", x.why(0), INVALID);
        due("why()", x.why(1), 0);
        due("the history", x.undo(), 3);
        due("the history", x.undo(), 2);
        HedgeTreaties y = of("Returns how many treaties there are");
        due("none", y.save(), 0);
        Sentences.makeFull(y);
        due("14", y.save(), 14);
        y.cancel(0);
        due("13", y.save(), 13);
        due("in place of the one that was", y.restore(), 13);
    }

    private static void restores() {
        promise = 29;
        HedgeTreaties x = of("Restores the snapshot, which stays");
        Sentences.makeBusy(x);
        x.save();
        String saved = Looks.street(x);
        for (int time = 0; time < 2; time++) {
            x.day();
            x.cancel(0);
            x.clip(0, 1);
            x.restore();
            SENTENCES.due("as saved, time " + time, Looks.street(x), saved);
        }
        HedgeTreaties y = of("Returns how many treaties there are then");
        y.save();
        y.sign(0, 1, 5);
        due("none", y.restore(), 0);
        due("undo", y.undo(), 1);
        y.sign(2, 3, 5);
        y.save();
        y.cancel(1);
        y.cancel(0);
        due("2", y.restore(), 2);
        due("again", y.restore(), 2);
        due("changes", y.count(12), 4);
        HedgeTreaties z = of("NOT_POSSIBLE if there is none");
        due("at first", z.restore(), NOT_POSSIBLE);
        z.day();
        due("behind a change", z.restore(), NOT_POSSIBLE);
        due("no change", z.count(12), 1);
        SENTENCES.error(NOT_POSSIBLE, w -> w.sign(0, 1, 5), HedgeTreaties::restore);
        z.save();
        due("of a street without treaties", z.restore(), 0);
    }
}
