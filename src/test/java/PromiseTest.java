/** For each promise of the document: ordinary inputs, the edges that it names, wrong inputs. */
public final class PromiseTest {
    private static final int LEAST_INT = Integer.MIN_VALUE;
    private static final int MOST_INT = Integer.MAX_VALUE;
    private static final int[] NO_HEDGES = Sentences.NO_HEDGES;

    private static final Checks CHECKS = new Checks();
    private static int promise;

    public static void main(String[] args) {
        newObject();
        heights();
        growths();
        nests();
        clips();
        plans();
        days();
        signs();
        cancels();
        freezes();
        thaws();
        appends();
        clears();
        faults();
        signsAll();
        whys();
        hedges();
        treaties();
        bounds();
        whyNots();
        clippings();
        counts();
        peace();
        ifDays();
        breaksIn();
        tightest();
        undoes();
        saves();
        restores();
        CHECKS.end("PromiseTest");
    }

    private static HedgeTreaties start(int number) {
        promise = number;
        return new HedgeTreaties();
    }

    private static void due(String call, long got, long want) {
        CHECKS.due("promise " + promise + ": " + call, got, want);
    }

    private static void write(HedgeTreaties x, String text) {
        Sentences.write(x, text);
    }

    private static String looks(HedgeTreaties x) {
        return Looks.street(x);
    }

    /** What returns an error changes nothing, and is not in the history. */
    private static void nothingChanged(HedgeTreaties x, String before, int states) {
        CHECKS.due("promise " + promise + ": looks behind errors", looks(x), before);
        due("states behind errors", x.count(12), states);
    }

    private static void newObject() {
        HedgeTreaties x = start(1);
        int[] due = {0, 0, 0, 0, 80, 0, 10, 0, 0, 0, 0, 0, 0};
        for (int what = 0; what < due.length; what++) {
            due("count " + what, x.count(what), due[what]);
        }
        int[] ofHedge = {10, 1, 0, 0, 10, 0, 0, 0};
        for (int hedge = 0; hedge < 8; hedge++) {
            for (int what = 0; what < 8; what++) {
                due("hedge " + hedge + " " + what, x.hedge(hedge, what), ofHedge[what]);
            }
        }
        CHECKS.due("promise 1: peace", x.peace(), 1.0);
        due("fault", x.fault(), 0);
        due("why", x.why(0), -4);
        due("undo", x.undo(), -2);
        due("restore", x.restore(), -2);
        due("breaksIn", x.breaksIn(), -4);
        due("treaty", x.treaty(0, 0), -1);
    }

    private static void heights() {
        HedgeTreaties x = start(2);
        due("height", x.height(0, 99), 10);
        due("height again", x.height(0, 0), 99);
        due("of the last hedge", x.height(7, 5), 10);
        due("now", x.hedge(0, 0), 0);
        due("now", x.hedge(7, 0), 5);
        due("of another", x.hedge(1, 0), 10);
        due("the same height is a change", x.height(7, 5), 5);
        due("states", x.count(12), 4);
        HedgeTreaties y = new HedgeTreaties();
        String before = looks(y);
        for (int hedge : NO_HEDGES) {
            due("no hedge", y.height(hedge, 5), -1);
        }
        due("too low", y.height(0, -1), -1);
        due("too high", y.height(0, 100), -1);
        due("far too high", y.height(0, MOST_INT), -1);
        nothingChanged(y, before, 0);
    }

    private static void growths() {
        HedgeTreaties x = start(3);
        due("growth", x.growth(0, 5), 1);
        due("growth again", x.growth(0, 0), 5);
        due("of the last hedge", x.growth(7, 2), 1);
        due("now", x.hedge(0, 1), 0);
        due("now", x.hedge(7, 1), 2);
        due("states", x.count(12), 3);
        x.day();
        due("it grows by it", x.hedge(7, 0), 12);
        due("it does not grow", x.hedge(0, 0), 10);
        HedgeTreaties y = new HedgeTreaties();
        String before = looks(y);
        for (int hedge : NO_HEDGES) {
            due("no hedge", y.growth(hedge, 2), -1);
        }
        due("too slow", y.growth(0, -1), -1);
        due("too fast", y.growth(0, 6), -1);
        nothingChanged(y, before, 0);
    }

    private static void nests() {
        HedgeTreaties x = start(4);
        x.day();
        due("nest", x.nest(0, 30), 0);
        due("today", x.hedge(0, 2), 1);
        due("until", x.hedge(0, 3), 31);
        due("in place of what was", x.nest(0, 1), 31);
        due("until", x.hedge(0, 3), 2);
        due("today", x.hedge(0, 2), 1);
        x.day();
        due("no more on the day until which they do", x.hedge(0, 2), 0);
        due("until", x.hedge(0, 3), 2);
        due("for no days", x.nest(7, 0), 0);
        due("until today", x.hedge(7, 3), 2);
        due("not today", x.hedge(7, 2), 0);
        due("states", x.count(12), 4);
        HedgeTreaties y = new HedgeTreaties();
        String before = looks(y);
        for (int hedge : NO_HEDGES) {
            due("no hedge", y.nest(hedge, 2), -1);
        }
        due("too few days", y.nest(0, -1), -1);
        due("too many days", y.nest(0, 31), -1);
        nothingChanged(y, before, 0);
    }

    private static void clips() {
        HedgeTreaties x = start(5);
        due("clip", x.clip(0, 1), 19);
        due("by all", x.clip(0, 9), 10);
        due("below 0", x.clip(0, 1), 4);
        due("it stays", x.hedge(0, 0), 0);
        due("clipped off", x.hedge(0, 7), 10);
        due("clips", x.count(9), 2);
        due("all clipped off", x.count(10), 10);
        due("refused", x.count(8), 1);
        due("refused ones are states", x.count(12), 3);
        x.nest(1, 2);
        due("birds", x.clip(1, 1), 3);
        due("birds ahead of below 0", x.clip(1, 99), 3);
        x.day();
        due("birds still", x.clip(1, 1), 3);
        x.day();
        due("birds gone", x.clip(1, 2), 20);
        x.height(7, 99);
        due("by 99", x.clip(7, 99), 10);
        HedgeTreaties y = new HedgeTreaties();
        y.nest(0, 5);
        String before = looks(y);
        for (int hedge : NO_HEDGES) {
            due("no hedge", y.clip(hedge, 2), -1);
        }
        due("by too little, ahead of birds", y.clip(0, 0), -1);
        due("by less than nothing", y.clip(0, LEAST_INT), -1);
        due("by too much", y.clip(0, 100), -1);
        nothingChanged(y, before, 1);
    }

    /** Each hedge has to be lower by 1 at least than the next one; from either end on. */
    private static void longRow(HedgeTreaties x, boolean upwards) {
        for (int step = 0; step < 7; step++) {
            int first = upwards ? step : 6 - step;
            x.sign(first, first + 1, -1);
        }
    }

    private static void plans() {
        HedgeTreaties x = start(6);
        due("nothing to clip", x.plan(), 10);
        due("no clips", x.count(9), 0);
        due("a state", x.count(12), 1);
        x.sign(0, 1, -3);
        x.sign(2, 0, -4);
        x.sign(3, 4, 0);
        x.nest(5, 3);
        x.nest(1, 3);
        due("plan", x.plan(), 20);
        due("first", x.hedge(0, 0), 7);
        due("other", x.hedge(1, 0), 10);
        due("along a row", x.hedge(2, 0), 3);
        due("clips", x.count(9), 2);
        due("clipped off", x.count(10), 10);
        due("clipped off it", x.hedge(2, 7), 7);
        due("nothing more", x.plan(), 10);
        x.height(0, 50);
        x.nest(0, 3);
        due("birds", x.plan(), 3);
        due("it stays", x.hedge(0, 0), 50);
        due("refused", x.count(8), 1);
        x.height(1, 2);
        due("below 0, ahead of birds", x.plan(), 4);
        due("it stays", x.hedge(0, 0), 50);
        due("refused", x.count(8), 2);
        x.height(1, 7);
        x.nest(0, 0);
        due("down to 0", x.plan(), 10 + 46 + 3);
        due("at 0", x.hedge(2, 0), 0);
        x.height(0, 50);
        x.freeze(0, 1);
        due("a frozen treaty does not count", x.plan(), 10);
        HedgeTreaties y = new HedgeTreaties();
        y.sign(0, 1, -1);
        due("by 1", y.plan(), 11);
        due("by 1", y.hedge(0, 0), 9);
        longRow(y, true);
        due("along the longest row", y.plan(), 37);
        due("the lowest", y.hedge(0, 0), 3);
    }

    private static void days() {
        HedgeTreaties x = start(7);
        x.sign(0, 1, 1);
        x.growth(0, 3);
        due("1 higher than allowed", x.day(), 1);
        due("the day", x.count(0), 1);
        due("grown", x.hedge(0, 0), 13);
        due("grown", x.hedge(1, 0), 11);
        x.height(0, 97);
        due("broken", x.day(), 1);
        due("not above 99", x.hedge(0, 0), 99);
        x.height(1, 98);
        due("holds", x.day(), 0);
        x.growth(1, 0);
        x.height(1, 50);
        due("at 99 it stays", x.day(), 1);
        due("at 99", x.hedge(0, 0), 99);
        x.freeze(0, 2);
        due("frozen", x.day(), 0);
        due("in force again", x.day(), 1);
        due("states", x.count(12), 4);
    }

    private static void signs() {
        HedgeTreaties x = start(8);
        due("sign", x.sign(0, 1, 60), 10);
        due("says nothing new", x.sign(0, 1, 60), 2);
        due("not together possible", x.sign(1, 0, -30), 11);
        due("not together possible", x.sign(0, 1, 29), 1);
        due("the least", x.sign(0, 1, 30), 12);
        due("along a row", x.sign(1, 2, -5), 13);
        due("says nothing new along a row", x.sign(0, 2, 25), 2);
        due("says something new along a row", x.sign(0, 2, 24), 14);
        due("signed", x.count(7), 5);
        due("refused", x.count(8), 3);
        due("states", x.count(12), 4);
        x.freeze(0, 5);
        x.freeze(2, 5);
        due("frozen ones are not known", x.sign(0, 1, 60), 15);
        due("frozen ones have to be possible, too", x.sign(0, 1, 29), 1);
        signsUpTo14();
        signErrors();
    }

    private static void signsUpTo14() {
        HedgeTreaties x = new HedgeTreaties();
        for (int d = 60; d > 46; d--) {
            due("sign " + d, x.sign(6, 7, d), 10 + 60 - d);
        }
        String before = looks(x);
        due("the 15th", x.sign(0, 1, 0), -3);
        due("the limit ahead of a reason", x.sign(6, 7, 60), -3);
        due("a wrong argument ahead of the limit", x.sign(0, 0, 0), -1);
        nothingChanged(x, before, 4);
        x.cancel(3);
        due("room again", x.sign(0, 1, 0), 23);
    }

    private static void signErrors() {
        HedgeTreaties x = new HedgeTreaties();
        String before = looks(x);
        for (int hedge : NO_HEDGES) {
            due("no first hedge", x.sign(hedge, 1, 0), -1);
            due("no other hedge", x.sign(1, hedge, 0), -1);
        }
        due("the same hedge", x.sign(3, 3, 5), -1);
        due("d too small", x.sign(0, 1, -31), -1);
        due("d too great", x.sign(0, 1, 61), -1);
        due("d far too great", x.sign(0, 1, MOST_INT), -1);
        nothingChanged(x, before, 0);
    }

    private static void cancels() {
        HedgeTreaties x = start(9);
        x.sign(0, 1, 1);
        x.sign(2, 3, 2);
        x.sign(4, 5, 3);
        x.freeze(2, 4);
        due("cancel", x.cancel(0), 2);
        due("numbers 1 less", x.treaty(0, 0), 2);
        due("numbers 1 less", x.treaty(1, 1), 5);
        due("with its d", x.treaty(1, 2), 103);
        due("with its day", x.treaty(1, 6), 4);
        due("no such treaty now", x.treaty(2, 0), -1);
        due("the last one", x.cancel(1), 1);
        due("signed so far", x.count(7), 3);
        String before = looks(x);
        due("no such treaty", x.cancel(1), -1);
        due("no such treaty", x.cancel(-1), -1);
        due("no such treaty", x.cancel(MOST_INT), -1);
        nothingChanged(x, before, 4);
        x.freeze(0, 9);
        due("all", x.cancel(0), 0);
        due("none left", x.cancel(0), -1);
        due("a new one is not frozen", x.sign(4, 5, 3), 10);
        due("a new one is not frozen", x.treaty(0, 3), 1);
    }

    private static void freezes() {
        HedgeTreaties x = start(10);
        x.sign(0, 1, -2);
        x.sign(2, 3, 0);
        x.day();
        due("a broken one", x.freeze(0, 30), 11);
        due("until", x.treaty(0, 6), 31);
        due("not in force", x.treaty(0, 3), 0);
        due("a frozen one, in place of what was", x.freeze(0, 1), 11);
        due("until", x.treaty(0, 6), 2);
        due("one that holds", x.freeze(1, 3), 11);
        x.day();
        due("in force on that day", x.treaty(0, 3), 1);
        due("broken again", x.freeze(0, 1), 12);
        due("states", x.count(12), 4);
        String before = looks(x);
        due("no days", x.freeze(0, 0), -1);
        due("too many days", x.freeze(0, 31), -1);
        due("no such treaty", x.freeze(2, 5), -1);
        due("no such treaty", x.freeze(-1, 5), -1);
        nothingChanged(x, before, 4);
    }

    private static void thaws() {
        HedgeTreaties x = start(11);
        x.sign(0, 1, 2);
        due("not frozen", x.thaw(0), 5);
        x.freeze(0, 11);
        due("too few cakes", x.thaw(0), 6);
        due("refused", x.count(8), 2);
        due("still frozen", x.treaty(0, 3), 0);
        x.day();
        due("all cakes", x.thaw(0), 10);
        due("no cakes left", x.count(6), 0);
        due("until today", x.treaty(0, 6), 1);
        due("in force", x.treaty(0, 3), 1);
        due("not frozen", x.thaw(0), 5);
        x.freeze(0, 1);
        due("too few cakes", x.thaw(0), 6);
        due("refused ones are states", x.count(12), 4);
        x.day();
        due("thawed by itself", x.thaw(0), 5);
        HedgeTreaties y = new HedgeTreaties();
        y.sign(0, 1, 2);
        y.freeze(0, 3);
        due("some cakes", y.thaw(0), 17);
        due("cakes left", y.count(6), 7);
        String before = looks(x);
        due("no such treaty", x.thaw(1), -1);
        due("no such treaty", x.thaw(-1), -1);
        nothingChanged(x, before, 4);
    }

    private static void appends() {
        HedgeTreaties x = start(12);
        due("the first code", x.append(33), 1);
        due("the last code", x.append(126), 2);
        due("too small", x.append(32), -1);
        due("too great", x.append(127), -1);
        due("far too small", x.append(LEAST_INT), -1);
        due("length", x.count(11), 2);
        for (int length = 3; length <= 60; length++) {
            due("append", x.append('0'), length);
        }
        due("full", x.append('0'), -3);
        due("a wrong code ahead of the limit", x.append(200), -1);
        due("length", x.count(11), 60);
        due("no change", x.count(12), 0);
    }

    private static void clears() {
        HedgeTreaties x = start(13);
        due("empty", x.clear(), 0);
        write(x, "0<1");
        due("clear", x.clear(), 3);
        due("length", x.count(11), 0);
        due("fault", x.fault(), 0);
        due("append again", x.append('5'), 1);
        due("no change", x.count(12), 0);
    }

    private static void fault(String text, int want) {
        HedgeTreaties x = new HedgeTreaties();
        write(x, text);
        due("fault of " + text, x.fault(), want);
        due("fault of " + text + " again", x.fault(), want);
        due("length of " + text, x.count(11), text.length());
    }

    private static void faults() {
        start(14);
        fault("", 0);
        for (String right : new String[] {"0<1", "7<0", "3<3", "0<1+1", "0<1+9", "0<1+10", "0<1+59",
                "0<1+60", "0<1-1", "0<1-9", "0<1-10", "0<1-29", "0<1-30", "0<1;1<0", "0<1+5;2<3-4;0<0"}) {
            fault(right, -4);
        }
        for (String short_ : new String[] {"0", "0<", "0<1+", "0<1-", "0<1;", "0<1+1;", "0<1-30;2<"}) {
            fault(short_, short_.length());
        }
        String[] atLast = {"8", "/", "<", ";", "0>", "00", "0;", "0<8", "0</", "0<;", "0<1<", "0<10",
            "0<1!", "0<1+0", "0<1-0", "0<1+;", "0<1++", "0<1+61", "0<1+70", "0<1+600", "0<1+100",
            "0<1-31", "0<1-40", "0<1-300", "0<1+1+", "0<1+1:", "0<1+1/", "0<1+:", "0<1+/", "0<1;;",
            "0<1;8", "0<1-5;3<9"};
        for (String wrong : atLast) {
            fault(wrong, wrong.length() - 1);
        }
        fault("8<1", 0);
        fault("0<1+61;2<3", 5);
        fault("0<1~~~", 3);
        String fourteen = "0<1;0<1;0<1;0<1;0<1;0<1;0<1;0<1;0<1;0<1;0<1;0<1;0<1;0<1;";
        fault(fourteen + "0<1", -4);
        fault(fourteen + "0<1;", 60);
        fault(fourteen + "0<1+", 60);
        fault(fourteen + "0<10", 59);
    }

    private static void signsAll() {
        HedgeTreaties x = start(15);
        due("empty", x.signAll(), -2);
        write(x, "0<1+61");
        due("a fault", x.signAll(), -2);
        due("the pad stays", x.count(11), 6);
        due("no change", x.count(12), 0);
        write(x, "0<1+60;2<3-30;4<5;6<7+7");
        due("all", x.signAll(), 4);
        due("no stop", x.why(0), -4);
        due("the pad is empty", x.count(11), 0);
        due("one change", x.count(12), 1);
        due("d", x.treaty(0, 2), 160);
        due("d", x.treaty(1, 2), 70);
        due("d", x.treaty(2, 2), 100);
        due("d", x.treaty(3, 2), 107);
        due("first", x.treaty(3, 0), 6);
        due("other", x.treaty(3, 1), 7);
        due("signed", x.count(7), 4);
        write(x, "4<5+1;1<2");
        due("refused at once", x.signAll(), 0);
        due("a change, too", x.count(12), 2);
        due("refused", x.count(8), 1);
        due("the pad is empty", x.count(11), 0);
        write(x, "1<2;5<4-1;2<0");
        due("up to the refused one", x.signAll(), 1);
        due("none behind it", x.count(1), 5);
        write(x, "2<0+50;3<3;5<6");
        due("up to the error", x.signAll(), 1);
        due("an error is not refused", x.count(8), 2);
        due("undo", x.undo(), 3);
        due("all of them are undone", x.count(1), 5);
        due("the pad stays empty", x.count(11), 0);
        write(x, "0<7+5");
        x.signAll();
        write(x, "7<1");
        due("without d", x.signAll(), 1);
        due("d of before is forgotten", x.treaty(x.count(1) - 1, 2), 100);
        signsAllUpTo14();
    }

    private static void signsAllUpTo14() {
        HedgeTreaties x = new HedgeTreaties();
        write(x, "0<1;1<2;2<3;3<4;4<5;5<6;6<7;7<6;6<5;5<4;4<3;3<2;2<1;1<0;0<2");
        due("14 of 15", x.signAll(), 14);
        due("the limit", x.why(0), -3);
        due("its number", x.why(1), 14);
        due("its position", x.why(2), 56);
        due("refused", x.count(8), 0);
        write(x, "0<0");
        due("none", x.signAll(), 0);
        due("a wrong argument ahead of the limit", x.why(0), -1);
    }

    private static void whys() {
        HedgeTreaties x = start(16);
        due("no such call", x.why(0), -4);
        due("too small", x.why(-1), -1);
        due("too great", x.why(3), -1);
        write(x, "0<1+12;1<0-9;0<1+5;3<4");
        due("signAll", x.signAll(), 2);
        due("reason", x.why(0), 1);
        due("number", x.why(1), 2);
        due("position", x.why(2), 13);
        due("too great", x.why(3), -1);
        x.undo();
        due("not undone", x.why(1), 2);
        write(x, "0<");
        due("an error", x.signAll(), -2);
        due("it stays behind an error", x.why(2), 13);
        x.sign(0, 1, 12);
        x.sign(0, 1, 12);
        due("not of sign()", x.why(0), 1);
        write(x, "0<1+12");
        x.signAll();
        due("reason", x.why(0), 2);
        due("number", x.why(1), 0);
        due("position", x.why(2), 0);
        x.save();
        write(x, "5<5");
        x.signAll();
        due("error", x.why(0), -1);
        x.restore();
        due("not restored", x.why(0), -1);
        write(x, "6<7");
        x.signAll();
        due("all were signed", x.why(0), -4);
        due("all were signed", x.why(2), -4);
    }

    /** Of the two treaties, the one is broken today alone, the other one from tomorrow on. */
    private static HedgeTreaties onTheEdge() {
        HedgeTreaties x = new HedgeTreaties();
        x.sign(0, 1, 0);
        x.sign(2, 3, 0);
        x.sign(4, 5, 0);
        x.height(0, 11);
        x.growth(1, 3);
        x.growth(2, 3);
        return x;
    }

    private static void hedges() {
        HedgeTreaties x = start(17);
        x.sign(0, 1, -3);
        x.sign(2, 0, 5);
        x.sign(1, 2, 20);
        x.height(0, 30);
        x.growth(0, 4);
        x.nest(0, 2);
        int[] ofFirst = {30, 4, 1, 2, 7, 1, 2, 0};
        int[] ofOther = {10, 1, 0, 0, 10, 1, 2, 0};
        for (int what = 0; what < 8; what++) {
            due("hedge 0 " + what, x.hedge(0, what), ofFirst[what]);
            due("hedge 1 " + what, x.hedge(1, what), ofOther[what]);
        }
        x.freeze(0, 1);
        due("broken, frozen", x.hedge(0, 5), 0);
        due("in force, frozen", x.hedge(0, 6), 1);
        due("least clipping, frozen", x.hedge(0, 4), 30);
        x.clip(1, 10);
        due("clipped off", x.hedge(1, 7), 10);
        x.thaw(0);
        due("no least clipping", x.hedge(0, 4), -4);
        due("nor of another", x.hedge(7, 4), -4);
        due("broken today", onTheEdge().hedge(0, 5), 1);
        due("broken tomorrow", onTheEdge().hedge(2, 5), 0);
        for (int hedge : NO_HEDGES) {
            due("no hedge", x.hedge(hedge, 0), -1);
        }
        due("too small", x.hedge(0, -1), -1);
        due("too great", x.hedge(0, 8), -1);
        due("looks change nothing", x.count(12), 4);
    }

    private static void treaties() {
        HedgeTreaties x = start(18);
        x.sign(0, 1, -30);
        x.sign(1, 2, 60);
        x.sign(0, 2, 20);
        int[] ofFirst = {0, 1, 70, 1, 1, 970, 0, 0};
        int[] ofSecond = {1, 2, 160, 1, 0, 1060, 0, 0};
        for (int what = 0; what < 8; what++) {
            due("treaty 0 " + what, x.treaty(0, what), ofFirst[what]);
            due("treaty 1 " + what, x.treaty(1, what), ofSecond[what]);
        }
        x.sign(1, 2, 50);
        due("nothing new beside another", x.treaty(1, 7), 1);
        due("nothing new along a row", x.treaty(2, 7), 1);
        due("something new", x.treaty(3, 7), 0);
        x.freeze(0, 3);
        due("frozen", x.treaty(0, 3), 0);
        due("not broken", x.treaty(0, 4), 0);
        due("by how much, also if frozen", x.treaty(0, 5), 970);
        due("until", x.treaty(0, 6), 3);
        due("the row is frozen", x.treaty(2, 7), 0);
        x.freeze(1, 3);
        due("a frozen one that says nothing new", x.treaty(1, 7), 1);
        x.freeze(3, 3);
        due("beside those in force only", x.treaty(1, 7), 0);
        x.height(0, 30);
        due("exactly as high as it may be", x.treaty(2, 4), 0);
        due("no higher", x.treaty(2, 5), 1000);
        HedgeTreaties y = onTheEdge();
        due("broken today", y.treaty(0, 4), 1);
        due("has to be lower today", y.treaty(0, 5), 999);
        due("broken tomorrow", y.treaty(1, 4), 0);
        due("could be higher today", y.treaty(1, 5), 1000);
        due("freezing what will be broken", y.freeze(1, 2), 10);
        due("freezing what is broken", y.freeze(0, 2), 11);
        due("too small", x.treaty(0, -1), -1);
        due("too great", x.treaty(0, 8), -1);
        due("no such treaty", x.treaty(4, 0), -1);
        due("no such treaty", x.treaty(-1, 0), -1);
        due("no such treaty", x.treaty(MOST_INT, 0), -1);
    }

    private static void bounds() {
        HedgeTreaties x = start(19);
        x.sign(0, 2, 5);
        x.sign(1, 2, -20);
        x.sign(0, 1, 10);
        x.sign(2, 3, 7);
        x.sign(3, 0, 60);
        for (int way = 0; way <= 1; way++) {
            due("one treaty", x.bound(0, 1, way), 1010);
            due("a row is less", x.bound(0, 2, way), 990);
            due("a longer row", x.bound(0, 3, way), 997);
            due("around", x.bound(2, 1, way), 1077);
            due("over itself", x.bound(0, 0, way), 1000);
            due("over itself, without treaties", x.bound(7, 7, way), 1000);
            due("none", x.bound(0, 4, way), -4);
            due("none", x.bound(4, 0, way), -4);
        }
        x.freeze(1, 2);
        for (int way = 0; way <= 1; way++) {
            due("without the frozen one", x.bound(0, 2, way), 1005);
            due("without the frozen one", x.bound(1, 2, way), -4);
            for (int hedge : NO_HEDGES) {
                due("no first hedge", x.bound(hedge, 1, way), -1);
                due("no other hedge", x.bound(1, hedge, way), -1);
            }
        }
        due("no such way", x.bound(0, 1, -1), -1);
        due("no such way", x.bound(0, 1, 2), -1);
        for (int way = 0; way <= 1; way++) {
            boundsAlongRows(way);
            boundsAmong14(way);
        }
    }

    private static void boundsAlongRows(int way) {
        HedgeTreaties x = new HedgeTreaties();
        longRow(x, true);
        due("along the longest row", x.bound(0, 7, way), 993);
        HedgeTreaties y = new HedgeTreaties();
        longRow(y, false);
        due("along the longest row, from its end", y.bound(0, 7, way), 993);
        due("along a part of it", y.bound(2, 5, way), 997);
        due("no way back", y.bound(7, 0, way), -4);
        due("no way back", y.bound(1, 0, way), -4);
        y.sign(7, 0, 30);
        due("a way back", y.bound(1, 0, way), 1024);
        y.cancel(7);
        due("no way back any more", y.bound(1, 0, way), -4);
        due("no way back any more", y.bound(7, 0, way), -4);
    }

    private static void boundsAmong14(int way) {
        HedgeTreaties x = new HedgeTreaties();
        for (int d = 60; d > 46; d--) {
            x.sign(6, 7, d);
        }
        due("the least of 14", x.bound(6, 7, way), 1047);
        x.freeze(13, 1);
        due("the least but one", x.bound(6, 7, way), 1048);
    }

    private static void whyNots() {
        HedgeTreaties x = start(20);
        due("it would", x.whyNot(0, 1, 60), 0);
        x.sign(0, 1, 5);
        due("nothing new", x.whyNot(0, 1, 5), 2);
        due("new", x.whyNot(0, 1, 4), 0);
        due("together possible", x.whyNot(1, 0, -5), 0);
        due("not together possible", x.whyNot(1, 0, -6), 1);
        due("nothing is signed", x.count(1), 1);
        due("nothing is refused", x.count(8), 0);
        due("no change", x.count(12), 1);
        for (int hedge : NO_HEDGES) {
            due("no first hedge", x.whyNot(hedge, 1, 0), -1);
            due("no other hedge", x.whyNot(1, hedge, 0), -1);
        }
        due("the same hedge", x.whyNot(3, 3, 5), -1);
        due("d too small", x.whyNot(0, 1, -31), -1);
        due("d too great", x.whyNot(0, 1, 61), -1);
        for (int d = 4; d > -9; d--) {
            x.sign(0, 1, d);
        }
        due("treaties", x.count(1), 14);
        due("with 14 treaties there is no error", x.whyNot(6, 7, 0), 0);
        due("with 14 treaties", x.whyNot(0, 1, 60), 2);
        HedgeTreaties row = new HedgeTreaties();
        longRow(row, true);
        due("possible against the longest row", row.whyNot(7, 0, 7), 0);
        due("not possible against the longest row", row.whyNot(7, 0, 6), 1);
        due("known by the longest row", row.whyNot(0, 7, -7), 2);
        due("more than the longest row", row.whyNot(0, 7, -8), 0);
        HedgeTreaties y = new HedgeTreaties();
        y.sign(0, 1, -30);
        y.sign(1, 2, -30);
        y.sign(2, 3, -30);
        due("as low as a hedge can be", y.whyNot(3, 4, -9), 0);
        due("lower than a hedge can be", y.whyNot(3, 4, -10), 1);
        due("a row as tall as hedges can be", y.whyNot(4, 0, -10), 1);
    }

    private static void clippings() {
        HedgeTreaties x = start(21);
        x.sign(0, 1, -3);
        x.sign(2, 0, -4);
        x.sign(3, 2, 20);
        x.nest(0, 5);
        x.height(3, 40);
        for (int way = 0; way <= 1; way++) {
            due("clipping", x.clipping(way), 3 + 7 + 17);
        }
        due("as plan() does", x.nest(0, 0), 5);
        x.save();
        due("as plan() does", x.plan(), 37);
        for (int way = 0; way <= 1; way++) {
            due("nothing to clip", x.clipping(way), 0);
        }
        x.height(1, 6);
        for (int way = 0; way <= 1; way++) {
            due("below 0", x.clipping(way), -4);
        }
        x.freeze(1, 1);
        for (int way = 0; way <= 1; way++) {
            due("without the frozen one", x.clipping(way), 4);
        }
        due("no such way", x.clipping(-1), -1);
        due("no such way", x.clipping(2), -1);
        for (int way = 0; way <= 1; way++) {
            HedgeTreaties y = new HedgeTreaties();
            y.sign(7, 0, -1);
            due("the first call", y.clipping(way), 1);
            y.sign(1, 0, -2);
            due("of the next state", y.clipping(way), 3);
            HedgeTreaties z = new HedgeTreaties();
            longRow(z, true);
            due("along the longest row", z.clipping(way), 28);
            z.height(7, 7);
            due("down to 0", z.clipping(way), 49);
            z.height(7, 6);
            due("below 0", z.clipping(way), -4);
        }
    }

    private static void counts() {
        HedgeTreaties x = start(22);
        x.day();
        x.sign(0, 1, 0);
        x.sign(1, 0, 1);
        x.sign(2, 3, 4);
        x.sign(2, 3, 5);
        x.height(0, 20);
        x.nest(4, 2);
        x.nest(5, 0);
        x.freeze(2, 2);
        x.clip(6, 4);
        x.clip(4, 1);
        x.freeze(0, 2);
        x.append('0');
        int[] due = {1, 3, 1, 0, 88 + 9 - 4, 1, 11, 3, 2, 1, 4, 1, 4};
        for (int what = 0; what < due.length; what++) {
            due("count " + what, x.count(what), due[what]);
        }
        x.thaw(0);
        due("broken", x.count(3), 1);
        x.plan();
        due("clips", x.count(9), 2);
        due("clipped off", x.count(10), 13);
        HedgeTreaties y = onTheEdge();
        y.growth(2, 1);
        due("broken today", y.count(3), 1);
        due("broken tomorrow", y.ifDays(1, 0), 0);
        y.nest(0, 1);
        due("birds in the first hedge", y.count(5), 1);
        y.nest(7, 1);
        due("birds in the last hedge", y.count(5), 2);
        x.undo();
        due("undone clips", x.count(9), 1);
        due("undone clipped off", x.count(10), 4);
        due("too small", x.count(-1), -1);
        due("too great", x.count(13), -1);
    }

    private static void peace() {
        HedgeTreaties x = start(23);
        CHECKS.due("promise 23: without any", x.peace(), 1.0);
        x.sign(0, 1, 0);
        x.sign(0, 2, 0);
        x.sign(2, 0, 5);
        CHECKS.due("promise 23: all hold", x.peace(), 1.0);
        x.height(0, 11);
        CHECKS.due("promise 23: one of three", x.peace(), 1.0 / 3.0);
        x.freeze(0, 2);
        CHECKS.due("promise 23: one of two", x.peace(), 0.5);
        x.freeze(2, 2);
        CHECKS.due("promise 23: none of one", x.peace(), 0.0);
        x.freeze(1, 2);
        CHECKS.due("promise 23: none in force", x.peace(), 1.0);
        HedgeTreaties y = onTheEdge();
        y.growth(2, 1);
        CHECKS.due("promise 23: today, not tomorrow", y.peace(), 2.0 / 3.0);
    }

    private static void ifDays() {
        HedgeTreaties x = start(24);
        x.sign(0, 1, 10);
        x.growth(0, 5);
        due("not yet", x.ifDays(2, 0), 0);
        due("broken", x.ifDays(3, 0), 1);
        due("heights", x.ifDays(1, 1), 80 + 12);
        due("up to 99", x.ifDays(30, 1), 99 + 7 * 40);
        x.freeze(0, 6);
        due("still frozen", x.ifDays(5, 0), 0);
        due("in force then", x.ifDays(6, 0), 1);
        x.day();
        x.freeze(0, 6);
        due("still frozen from today on", x.ifDays(5, 0), 0);
        due("in force then from today on", x.ifDays(6, 0), 1);
        due("nothing is changed", x.hedge(0, 0), 15);
        due("nothing is changed", x.count(0), 1);
        due("no days", x.ifDays(0, 0), -1);
        due("too many days", x.ifDays(31, 1), -1);
        due("days far below 0", x.ifDays(LEAST_INT, 1), -1);
        due("what too small", x.ifDays(1, -1), -1);
        due("what too great", x.ifDays(1, 2), -1);
    }

    private static void breaksIn() {
        HedgeTreaties x = start(25);
        x.sign(0, 1, 59);
        due("none", x.breaksIn(), -4);
        x.growth(0, 2);
        x.height(0, 0);
        x.height(1, 0);
        due("behind 60 days at most", x.breaksIn(), -4);
        x.height(0, 1);
        x.growth(0, 1);
        x.growth(1, 0);
        due("the 59th day", x.breaksIn(), 59);
        x.height(0, 0);
        due("the 60th day", x.breaksIn(), 60);
        x.height(1, 1);
        due("the 61st day", x.breaksIn(), -4);
        x.freeze(0, 30);
        x.height(0, 70);
        due("when it is thawed", x.breaksIn(), 30);
        x.sign(2, 3, -1);
        due("now", x.breaksIn(), 0);
        due("nothing is changed", x.count(0), 0);
        due("no change", x.count(12), 4);
        HedgeTreaties y = new HedgeTreaties();
        y.sign(0, 1, 3);
        y.day();
        y.growth(1, 5);
        due("yesterday does not count", y.breaksIn(), -4);
        y.growth(1, 1);
        y.growth(0, 2);
        due("only for some days", y.breaksIn(), 4);
        y.height(0, 99);
        y.height(1, 60);
        y.freeze(0, 30);
        y.growth(1, 2);
        due("healed ahead of its thaw", y.breaksIn(), -4);
    }

    private static void tightest() {
        HedgeTreaties x = start(26);
        due("the least there is", x.tightest(0, 1), 70);
        x.sign(0, 1, -25);
        due("against the other way", x.tightest(1, 0), 125);
        due("the same way", x.tightest(0, 1), 70);
        x.sign(1, 2, -25);
        due("against a row", x.tightest(2, 0), 150);
        x.sign(2, 3, -10);
        due("exactly 60", x.tightest(3, 0), 160);
        x.sign(2, 3, -11);
        due("none", x.tightest(3, 0), -4);
        x.sign(3, 4, -29);
        due("by the height of hedges", x.tightest(4, 5), 91);
        x.freeze(0, 5);
        due("frozen ones have to be possible, too", x.tightest(1, 0), 125);
        due("no change", x.count(12), 4);
        for (int hedge : NO_HEDGES) {
            due("no first hedge", x.tightest(hedge, 1), -1);
            due("no other hedge", x.tightest(1, hedge), -1);
        }
        due("the same hedge", x.tightest(3, 3), -1);
    }

    private static void undoes() {
        HedgeTreaties x = start(27);
        due("none", x.undo(), -2);
        for (int call = 0; call < 16; call++) {
            undoesDownTo(call);
        }
        changes(x, 0, 7);
        due("at most 4 states", x.count(12), 4);
        x.append('x');
        x.save();
        for (int states = 3; states >= 0; states--) {
            due("undo", x.undo(), states);
        }
        due("no more", x.undo(), -2);
        due("the pad stays", x.count(11), 1);
        due("the day", x.count(0), 0);
        x.restore();
        due("the snapshot stays", x.count(0), 1);
    }

    /** Behind undo() a street looks as another one on which the later calls never were. */
    private static void undoesDownTo(int call) {
        HedgeTreaties other = new HedgeTreaties();
        other.save();
        changes(other, 0, call);
        String due = looks(other);
        for (int times = 1; times <= 4 && call + times <= 16; times++) {
            HedgeTreaties x = new HedgeTreaties();
            x.save();
            changes(x, 0, call + times);
            for (int time = 1; time <= times; time++) {
                due("undo", x.undo(), Math.min(call + times, 4) - time);
            }
            CHECKS.due("promise 27: as before call " + call, looks(x), due);
        }
    }

    private static void changes(HedgeTreaties x, int from, int to) {
        for (int call = from; call < to; call++) {
            change(x, call);
        }
    }

    private static void change(HedgeTreaties x, int call) {
        switch (call) {
            case 0: x.height(0, 30); break;
            case 1: x.sign(6, 4, 3); break;
            case 2: x.sign(0, 2, 5); break;
            case 3: x.plan(); break;
            case 4: x.freeze(0, 5); break;
            case 5: x.thaw(0); break;
            case 6: x.day(); break;
            case 7: x.nest(2, 3); break;
            case 8: x.clip(2, 1); break;
            case 9: x.cancel(0); break;
            case 10: x.sign(0, 2, -2); break;
            case 11: write(x, "3<4-2;4<3"); x.signAll(); break;
            case 12: x.growth(4, 5); break;
            case 13: x.height(4, 50); break;
            case 14: x.restore(); break;
            default: x.clip(3, 1); break;
        }
    }

    private static void saves() {
        HedgeTreaties x = start(28);
        due("none", x.save(), 0);
        x.sign(0, 1, 3);
        x.sign(2, 3, 3);
        due("save", x.save(), 2);
        due("no change", x.count(12), 2);
        x.cancel(0);
        due("in place of the one that was", x.restore(), 2);
        x.undo();
        due("undo leaves the snapshot", x.restore(), 2);
        x.cancel(0);
        due("save again", x.save(), 1);
        x.cancel(0);
        due("the new one", x.restore(), 1);
    }

    private static void restores() {
        HedgeTreaties x = start(29);
        due("none", x.restore(), -2);
        due("an error is no change", x.count(12), 0);
        changes(x, 0, 9);
        HedgeTreaties other = new HedgeTreaties();
        changes(other, 0, 9);
        String saved = looks(other);
        x.save();
        x.append('0');
        changes(x, 6, 12);
        x.append('1');
        String before = looks(x);
        due("restore", x.restore(), 2);
        CHECKS.due("promise 29: as saved", looks(x), saved);
        due("the pad stays", x.count(11), 1);
        due("a change", x.count(12), 4);
        due("undo of restore", x.undo(), 3);
        CHECKS.due("promise 29: as before", looks(x), before);
        due("the snapshot stays", x.restore(), 2);
        due("once more", x.restore(), 2);
        due("as saved", x.count(0), 1);
    }
}
