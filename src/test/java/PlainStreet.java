import java.util.ArrayDeque;
import java.util.ArrayList;
import java.util.Arrays;
import java.util.Deque;
import java.util.List;
import java.util.regex.Pattern;

/**
 * A second street, told from the document in other ways than HedgeTreaties: states are copied
 * whole, bounds are looked for along every row, clipping goes leaf by leaf, texts by a pattern.
 * It takes good arguments only.
 */
final class PlainStreet {
    private static final String PART = "[0-7]<[0-7](\\+([1-9]|[1-5][0-9]|60)|-([1-9]|[12][0-9]|30))?";
    private static final Pattern TEXT = Pattern.compile(PART + "(;" + PART + ")*");
    private static final String[] ENDS = {"", "1", "0", "<0", "0<0"};

    private record Treaty(int first, int other, int d, int until) { }

    private static final class State {
        int[] heights = new int[8];
        int[] growths = new int[8];
        int[] nested = new int[8];
        int[] clipped = new int[8];
        List<Treaty> treaties = new ArrayList<>();
        int day;
        int cakes = 10;
        int signed;
        int refused;
        int clips;

        State copy() {
            State copy = new State();
            copy.heights = heights.clone();
            copy.growths = growths.clone();
            copy.nested = nested.clone();
            copy.clipped = clipped.clone();
            copy.treaties = new ArrayList<>(treaties);
            copy.day = day;
            copy.cakes = cakes;
            copy.signed = signed;
            copy.refused = refused;
            copy.clips = clips;
            return copy;
        }
    }

    private State now = new State();
    private State snapshot;
    private final Deque<State> history = new ArrayDeque<>();
    private String pad = "";
    private int[] stop;

    PlainStreet() {
        Arrays.fill(now.heights, 10);
        Arrays.fill(now.growths, 1);
    }

    int treaties() {
        return now.treaties.size();
    }

    private void change() {
        history.addLast(now.copy());
        if (history.size() > 4) {
            history.removeFirst();
        }
    }

    private int refused(int reason) {
        now.refused++;
        return reason;
    }

    int height(int hedge, int height) {
        change();
        int before = now.heights[hedge];
        now.heights[hedge] = height;
        return before;
    }

    int growth(int hedge, int growth) {
        change();
        int before = now.growths[hedge];
        now.growths[hedge] = growth;
        return before;
    }

    int nest(int hedge, int days) {
        change();
        int before = now.nested[hedge];
        now.nested[hedge] = now.day + days;
        return before;
    }

    private boolean nests(int hedge) {
        return now.nested[hedge] > now.day;
    }

    private void cut(int hedge, int to) {
        if (to < now.heights[hedge]) {
            now.clips++;
            now.clipped[hedge] += now.heights[hedge] - to;
            now.heights[hedge] = to;
        }
    }

    int clip(int hedge, int by) {
        change();
        if (nests(hedge)) {
            return refused(3);
        }
        int to = now.heights[hedge] - by;
        if (to < 0) {
            return refused(4);
        }
        cut(hedge, to);
        return 10 + to;
    }

    int plan() {
        change();
        int[] levels = leastClipping();
        if (levels == null) {
            return refused(4);
        }
        int together = 0;
        boolean birds = false;
        for (int hedge = 0; hedge < 8; hedge++) {
            together += now.heights[hedge] - levels[hedge];
            birds |= nests(hedge) && levels[hedge] != now.heights[hedge];
        }
        if (birds) {
            return refused(3);
        }
        for (int hedge = 0; hedge < 8; hedge++) {
            cut(hedge, levels[hedge]);
        }
        return 10 + together;
    }

    private static void pass(State state) {
        state.day++;
        for (int hedge = 0; hedge < 8; hedge++) {
            for (int leaf = 0; leaf < state.growths[hedge]; leaf++) {
                state.heights[hedge] += state.heights[hedge] < 99 ? 1 : 0;
            }
        }
    }

    int day() {
        change();
        pass(now);
        return broken(now);
    }

    private static boolean inForce(State state, Treaty treaty) {
        return !(state.day < treaty.until);
    }

    private static boolean broken(State state, Treaty treaty) {
        int higher = state.heights[treaty.first] - state.heights[treaty.other];
        return inForce(state, treaty) && higher > treaty.d;
    }

    private static int broken(State state) {
        int broken = 0;
        for (Treaty treaty : state.treaties) {
            broken += broken(state, treaty) ? 1 : 0;
        }
        return broken;
    }

    private List<Treaty> inForce() {
        List<Treaty> inForce = new ArrayList<>();
        for (Treaty treaty : now.treaties) {
            if (inForce(now, treaty)) {
                inForce.add(treaty);
            }
        }
        return inForce;
    }

    /** null if no row leads there. */
    private static Integer least(List<Treaty> treaties, int from, int to, int seen) {
        if (from == to) {
            return 0;
        }
        Integer least = null;
        for (Treaty treaty : treaties) {
            if (treaty.first == from && (seen >> treaty.other & 1) == 0) {
                Integer rest = least(treaties, treaty.other, to, seen | 1 << treaty.other);
                if (rest != null && (least == null || rest + treaty.d < least)) {
                    least = rest + treaty.d;
                }
            }
        }
        return least;
    }

    private static Integer least(List<Treaty> treaties, int from, int to) {
        return least(treaties, from, to, 1 << from);
    }

    /** By the shortest ways with the ground as a ninth hedge, 0 high. */
    private static boolean possible(List<Treaty> treaties) {
        int far = 1000000;
        int[][] ways = new int[9][9];
        for (int[] row : ways) {
            Arrays.fill(row, far);
        }
        for (int hedge = 0; hedge < 8; hedge++) {
            ways[hedge][hedge] = 0;
            ways[hedge][8] = 99;
            ways[8][hedge] = 0;
        }
        ways[8][8] = 0;
        for (Treaty treaty : treaties) {
            int way = ways[treaty.first][treaty.other];
            ways[treaty.first][treaty.other] = Math.min(way, treaty.d);
        }
        for (int between = 0; between < 9; between++) {
            for (int from = 0; from < 9; from++) {
                for (int to = 0; to < 9; to++) {
                    int way = ways[from][between] + ways[between][to];
                    ways[from][to] = Math.min(ways[from][to], way);
                }
            }
        }
        for (int hedge = 0; hedge < 9; hedge++) {
            if (ways[hedge][hedge] < 0) {
                return false;
            }
        }
        return true;
    }

    int whyNot(int first, int other, int d) {
        List<Treaty> together = new ArrayList<>(now.treaties);
        together.add(new Treaty(first, other, d, 0));
        if (!possible(together)) {
            return 1;
        }
        Integer bound = least(inForce(), first, other);
        return bound != null && bound <= d ? 2 : 0;
    }

    private int signOne(int first, int other, int d) {
        if (first == other) {
            return -1;
        }
        if (now.treaties.size() == 14) {
            return -3;
        }
        int reason = whyNot(first, other, d);
        if (reason > 0) {
            return refused(reason);
        }
        now.treaties.add(new Treaty(first, other, d, 0));
        now.signed++;
        return 10 + now.treaties.size() - 1;
    }

    int sign(int first, int other, int d) {
        if (now.treaties.size() == 14) {
            return -3;
        }
        change();
        return signOne(first, other, d);
    }

    int cancel(int treaty) {
        change();
        now.treaties.remove(treaty);
        return now.treaties.size();
    }

    private void freezeUntil(int number, int until) {
        Treaty treaty = now.treaties.get(number);
        now.treaties.set(number, new Treaty(treaty.first, treaty.other, treaty.d, until));
    }

    int freeze(int treaty, int days) {
        change();
        int before = broken(now);
        freezeUntil(treaty, now.day + days);
        now.cakes += before - broken(now);
        return now.cakes;
    }

    int thaw(int treaty) {
        change();
        int left = now.treaties.get(treaty).until - now.day;
        if (left <= 0) {
            return refused(5);
        }
        if (left > now.cakes) {
            return refused(6);
        }
        now.cakes -= left;
        freezeUntil(treaty, now.day);
        return 10 + now.cakes;
    }

    int append(int code) {
        if (pad.length() == 60) {
            return -3;
        }
        pad += (char) code;
        return pad.length();
    }

    int clear() {
        int before = pad.length();
        pad = "";
        return before;
    }

    private static boolean canBegin(String text) {
        for (String end : ENDS) {
            if (TEXT.matcher(text + end).matches()) {
                return true;
            }
        }
        return false;
    }

    int fault() {
        for (int length = 1; length <= pad.length(); length++) {
            if (!canBegin(pad.substring(0, length))) {
                return length - 1;
            }
        }
        return TEXT.matcher(pad).matches() ? -4 : pad.length();
    }

    int signAll() {
        if (fault() != -4) {
            return -2;
        }
        change();
        stop = null;
        int signed = 0;
        int position = 0;
        for (String part : pad.split(";")) {
            int d = part.length() > 3 ? Integer.parseInt(part.substring(3)) : 0;
            int answer = signOne(part.charAt(0) - '0', part.charAt(2) - '0', d);
            if (answer < 10) {
                stop = new int[] {answer, signed, position};
                break;
            }
            signed++;
            position += part.length() + 1;
        }
        pad = "";
        return signed;
    }

    int why(int what) {
        return stop == null ? -4 : stop[what];
    }

    /** null if there is none. */
    private int[] leastClipping() {
        int[] levels = now.heights.clone();
        List<Treaty> treaties = inForce();
        boolean lower = true;
        while (lower) {
            lower = false;
            for (Treaty treaty : treaties) {
                if (levels[treaty.first] - levels[treaty.other] > treaty.d) {
                    levels[treaty.first]--;
                    lower = true;
                    if (levels[treaty.first] < 0) {
                        return null;
                    }
                }
            }
        }
        return levels;
    }

    int hedge(int hedge, int what) {
        int[] levels = leastClipping();
        int inForce = 0;
        int broken = 0;
        for (Treaty treaty : now.treaties) {
            if (treaty.first == hedge || treaty.other == hedge) {
                inForce += inForce(now, treaty) ? 1 : 0;
                broken += broken(now, treaty) ? 1 : 0;
            }
        }
        int least = levels == null ? -4 : levels[hedge];
        int[] answers = {now.heights[hedge], now.growths[hedge], nests(hedge) ? 1 : 0,
            now.nested[hedge], least, broken, inForce, now.clipped[hedge]};
        return answers[what];
    }

    int treaty(int number, int what) {
        Treaty treaty = now.treaties.get(number);
        List<Treaty> others = inForce();
        others.removeIf(each -> each == treaty);
        Integer bound = least(others, treaty.first, treaty.other);
        int slack = now.heights[treaty.other] + treaty.d - now.heights[treaty.first];
        int[] answers = {treaty.first, treaty.other, treaty.d + 100, inForce(now, treaty) ? 1 : 0,
            broken(now, treaty) ? 1 : 0, slack + 1000, treaty.until,
            bound != null && bound <= treaty.d ? 1 : 0};
        return answers[what];
    }

    int bound(int first, int other) {
        Integer least = least(inForce(), first, other);
        return least == null ? -4 : least + 1000;
    }

    private static int sum(int[] numbers) {
        return Arrays.stream(numbers).sum();
    }

    int clipping() {
        int[] levels = leastClipping();
        return levels == null ? -4 : sum(now.heights) - sum(levels);
    }

    int count(int what) {
        int nests = 0;
        for (int hedge = 0; hedge < 8; hedge++) {
            nests += nests(hedge) ? 1 : 0;
        }
        int[] answers = {now.day, now.treaties.size(), inForce().size(), broken(now),
            sum(now.heights), nests, now.cakes, now.signed, now.refused, now.clips,
            sum(now.clipped), pad.length(), history.size()};
        return answers[what];
    }

    double peace() {
        double inForce = inForce().size();
        return inForce == 0 ? 1.0 : (inForce - broken(now)) / inForce;
    }

    int ifDays(int days, int what) {
        State then = now.copy();
        for (int day = 0; day < days; day++) {
            pass(then);
        }
        return what == 0 ? broken(then) : sum(then.heights);
    }

    int breaksIn() {
        State then = now.copy();
        for (int days = 0; days <= 60; days++) {
            if (broken(then) > 0) {
                return days;
            }
            pass(then);
        }
        return -4;
    }

    int tightest(int first, int other) {
        for (int d = -30; d <= 60; d++) {
            if (whyNot(first, other, d) != 1) {
                return d + 100;
            }
        }
        return -4;
    }

    int undo() {
        if (history.isEmpty()) {
            return -2;
        }
        now = history.removeLast();
        return history.size();
    }

    int save() {
        snapshot = now.copy();
        return now.treaties.size();
    }

    int restore() {
        if (snapshot == null) {
            return -2;
        }
        change();
        now = snapshot.copy();
        return now.treaties.size();
    }
}
