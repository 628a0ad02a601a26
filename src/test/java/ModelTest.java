import java.util.ArrayList;
import java.util.List;

/** Long runs of calls on HedgeTreaties and on PlainStreet, whose answers have to be the same. */
public final class ModelTest {
    private static final int RUNS = 600;
    /** 512 calls are promised, and the longest step, a text, takes some 70. */
    private static final int CALLS = 440;

    private static final Checks CHECKS = new Checks();

    private long seed;
    private int calls;
    private final int hedges;
    private final HedgeTreaties x = new HedgeTreaties();
    private final PlainStreet model = new PlainStreet();
    private final List<String> told = new ArrayList<>();

    private ModelTest(int run) {
        seed = 7919L * run + 17;
        hedges = 2 + run % 7;
    }

    public static void main(String[] args) {
        for (int run = 0; run < RUNS && !CHECKS.anyFailed(); run++) {
            new ModelTest(run).play();
        }
        CHECKS.end("ModelTest");
    }

    private void play() {
        while (calls < CALLS && !CHECKS.anyFailed()) {
            step();
        }
        if (CHECKS.anyFailed()) {
            System.out.println("the run: " + String.join(", ", told));
        }
    }

    /** A number from 0 on below the bound, always the same ones for the same run. */
    private int pick(int bound) {
        seed = seed * 6364136223846793005L + 1442695040888963407L;
        return (int) ((seed >>> 33) % bound);
    }

    private int hedge() {
        return pick(10) == 0 ? pick(8) : pick(hedges);
    }

    private int another(int hedge) {
        return (hedge + 1 + pick(pick(4) == 0 ? 7 : hedges - 1)) % (hedge < hedges ? hedges : 8);
    }

    private int d() {
        switch (pick(4)) {
            case 0: return pick(91) - 30;
            case 1: return pick(7) - 3;
            case 2: return -pick(31);
            default: return pick(20) - 5;
        }
    }

    private void same(String call, long got, long want) {
        calls++;
        told.add(call);
        CHECKS.due(call, got, want);
    }

    private void step() {
        switch (pick(8)) {
            case 0: tend(); break;
            case 1: deal(); break;
            case 2: deal(); break;
            case 3: look(); break;
            case 4: foresee(); break;
            case 5: write(); break;
            case 6: if (pick(3) == 0) { goBack(); } else { look(); } break;
            default: countSome(); break;
        }
    }

    private void tend() {
        int a = hedge();
        int b;
        switch (pick(7)) {
            case 0: b = pick(100); same("height " + a + " " + b, x.height(a, b), model.height(a, b)); break;
            case 1: b = pick(6); same("growth " + a + " " + b, x.growth(a, b), model.growth(a, b)); break;
            case 2: b = pick(31); same("nest " + a + " " + b, x.nest(a, b), model.nest(a, b)); break;
            case 3: b = 1 + pick(30); same("clip " + a + " " + b, x.clip(a, b), model.clip(a, b)); break;
            case 4: same("plan", x.plan(), model.plan()); break;
            default: same("day", x.day(), model.day()); break;
        }
    }

    private void deal() {
        int a = hedge();
        int b = another(a);
        if (model.treaties() == 0 || pick(3) > 0) {
            int d = d();
            if (a != b) {
                same("sign " + a + " " + b + " " + d, x.sign(a, b, d), model.sign(a, b, d));
            }
            return;
        }
        int t = pick(model.treaties());
        int days = 1 + pick(pick(2) == 0 ? 5 : 30);
        switch (pick(4)) {
            case 0: same("freeze " + t + " " + days, x.freeze(t, days), model.freeze(t, days)); break;
            case 1: same("thaw " + t, x.thaw(t), model.thaw(t)); break;
            case 2: same("freeze " + t + " " + days, x.freeze(t, days), model.freeze(t, days)); break;
            default: if (pick(2) == 0) { same("cancel " + t, x.cancel(t), model.cancel(t)); } break;
        }
    }

    private void look() {
        int a = hedge();
        int b = pick(8);
        same("hedge " + a + " " + b, x.hedge(a, b), model.hedge(a, b));
        if (model.treaties() > 0) {
            int t = pick(model.treaties());
            same("treaty " + t + " " + b, x.treaty(t, b), model.treaty(t, b));
        }
        int way = pick(2);
        int other = hedge();
        same("bound " + a + " " + other + " " + way, x.bound(a, other, way), model.bound(a, other));
        same("clipping " + way, x.clipping(way), model.clipping());
    }

    private void foresee() {
        int a = hedge();
        int b = another(a);
        int d = d();
        int days = 1 + pick(30);
        int what = pick(2);
        if (a != b) {
            same("whyNot " + a + " " + b + " " + d, x.whyNot(a, b, d), model.whyNot(a, b, d));
            same("tightest " + a + " " + b, x.tightest(a, b), model.tightest(a, b));
        }
        same("ifDays " + days + " " + what, x.ifDays(days, what), model.ifDays(days, what));
        same("breaksIn", x.breaksIn(), model.breaksIn());
    }

    private void countSome() {
        int what = pick(13);
        same("count " + what, x.count(what), model.count(what));
        calls++;
        CHECKS.due("peace", x.peace(), model.peace());
    }

    private void goBack() {
        switch (pick(4)) {
            case 0: same("save", x.save(), model.save()); break;
            case 1: same("restore", x.restore(), model.restore()); break;
            default: same("undo", x.undo(), model.undo()); break;
        }
    }

    private void write() {
        if (pick(3) == 0) {
            return;
        }
        if (pick(3) == 0) {
            same("clear", x.clear(), model.clear());
        }
        String text = pick(12) == 0 ? longText() : text(1 + pick(3));
        for (int i = 0; i < text.length(); i++) {
            int code = text.charAt(i);
            same("append " + code, x.append(code), model.append(code));
        }
        same("fault", x.fault(), model.fault());
        same("signAll", x.signAll(), model.signAll());
        for (int what = 0; what < 3; what++) {
            same("why " + what, x.why(what), model.why(what));
        }
    }

    private String longText() {
        StringBuilder text = new StringBuilder();
        while (text.length() < 60) {
            text.append(text.length() == 0 ? "" : ";").append(hedge()).append('<').append(hedge());
        }
        text.setLength(pick(2) == 0 ? 59 : 60);
        return text.toString();
    }

    private String text(int parts) {
        StringBuilder text = new StringBuilder();
        for (int part = 0; part < parts; part++) {
            int a = hedge();
            text.append(part == 0 ? "" : ";").append(a).append('<');
            text.append(pick(12) == 0 ? a : another(a));
            int d = pick(8) == 0 ? pick(150) - 50 : d();
            if (pick(5) != 0) {
                text.append(d < 0 ? "" : "+").append(d);
            }
        }
        if (pick(5) == 0) {
            text.setCharAt(pick(text.length()), "0123456789<+-;!~/:".charAt(pick(18)));
        }
        return text.toString();
    }
}
