import java.util.ArrayList;
import java.util.Collections;
import java.util.List;
import java.util.Random;

/**
 * Treaties about three hedges, of which all heights are tried: what is possible, how tight a
 * treaty could be and how little has to be clipped is told from the document's words alone.
 */
public final class HeightsTest {
    private static final int RUNS = 60;
    private static final int NONE = -4;

    private record Treaty(int first, int other, int d) {
        boolean holds(int[] heights) {
            return heights[first] - heights[other] <= d;
        }
    }

    private static final Checks CHECKS = new Checks();

    private final Random random;
    private final HedgeTreaties street = new HedgeTreaties();
    private final List<Integer> hedges = new ArrayList<>(List.of(0, 1, 2, 3, 4, 5, 6, 7));
    private final int[] heights = new int[3];
    private final List<Treaty> signed = new ArrayList<>();
    private final List<Treaty> inForce = new ArrayList<>();

    private HeightsTest(int run) {
        random = new Random(run);
        Collections.shuffle(hedges, random);
    }

    public static void main(String[] args) {
        for (int run = 0; run < RUNS; run++) {
            HeightsTest test = new HeightsTest(run);
            test.setHeights();
            test.checkSigning();
            test.checkTightest();
            test.checkClipping();
        }
        CHECKS.end("HeightsTest");
    }

    private void setHeights() {
        for (int hedge = 0; hedge < 3; hedge++) {
            heights[hedge] = random.nextInt(100);
            street.height(hedges.get(hedge), heights[hedge]);
        }
    }

    private void checkSigning() {
        for (int treaty = 0; treaty < 6; treaty++) {
            int first = random.nextInt(3);
            int other = (first + 1 + random.nextInt(2)) % 3;
            int d = random.nextBoolean() ? random.nextInt(91) - 30 : random.nextInt(20) - 30;
            Treaty next = new Treaty(first, other, d);
            int reason = !isPossibleWith(next) ? 1 : isNothingNew(next) ? 2 : 0;
            due("whyNot of " + next, street.whyNot(hedges.get(first), hedges.get(other), d), reason);
            int answer = street.sign(hedges.get(first), hedges.get(other), d);
            due("sign of " + next, answer, reason == 0 ? 10 + signed.size() : reason);
            if (answer >= 10) {
                keep(next);
            }
        }
    }

    private void keep(Treaty next) {
        signed.add(next);
        if (random.nextInt(3) == 0) {
            street.freeze(signed.size() - 1, 30);
        } else {
            inForce.add(next);
        }
    }

    private boolean isPossibleWith(Treaty next) {
        List<Treaty> together = new ArrayList<>(signed);
        together.add(next);
        return tallest(together, new int[] {99, 99, 99}) != null;
    }

    /** A row about three hedges has two treaties at most. */
    private boolean isNothingNew(Treaty next) {
        for (Treaty start : inForce) {
            if (start.first != next.first) {
                continue;
            }
            if (start.other == next.other && start.d <= next.d) {
                return true;
            }
            for (Treaty end : inForce) {
                if (start.other == end.first && end.other == next.other && start.d + end.d <= next.d) {
                    return true;
                }
            }
        }
        return false;
    }

    private void checkTightest() {
        int first = random.nextInt(3);
        int other = (first + 1) % 3;
        int least = 99;
        int[] tried = new int[3];
        for (int number = 0; number < 1000000; number++) {
            write(tried, number);
            if (tried[first] - tried[other] < least && doHold(signed, tried)) {
                least = tried[first] - tried[other];
            }
        }
        int due = least > 60 ? NONE : Math.max(least, -30) + 100;
        due("tightest", street.tightest(hedges.get(first), hedges.get(other)), due);
    }

    private void checkClipping() {
        int[] levels = tallest(inForce, heights);
        int off = NONE;
        if (levels != null) {
            off = 0;
            for (int hedge = 0; hedge < 3; hedge++) {
                off += heights[hedge] - levels[hedge];
            }
        }
        due("clipping, by hedges", street.clipping(0), off);
        due("clipping, by bounds", street.clipping(1), off);
        for (int hedge = 0; hedge < 3; hedge++) {
            due("level of " + hedge, street.hedge(hedges.get(hedge), 4), levels == null ? NONE : levels[hedge]);
        }
        due("plan", street.plan(), levels == null ? 4 : 10 + off);
    }

    /** The greatest height of each hedge, up to a top, with which all hold; null if there is none. */
    private static int[] tallest(List<Treaty> treaties, int[] tops) {
        int[] tallest = null;
        int[] tried = new int[3];
        for (int number = 0; number < 1000000; number++) {
            write(tried, number);
            if (isUpTo(tops, tried) && doHold(treaties, tried)) {
                tallest = tallest == null ? tried.clone() : tallest;
                for (int hedge = 0; hedge < 3; hedge++) {
                    tallest[hedge] = Math.max(tallest[hedge], tried[hedge]);
                }
            }
        }
        return tallest;
    }

    private static void write(int[] tried, int number) {
        tried[0] = number / 10000;
        tried[1] = number / 100 % 100;
        tried[2] = number % 100;
    }

    private static boolean isUpTo(int[] tops, int[] tried) {
        return tried[0] <= tops[0] && tried[1] <= tops[1] && tried[2] <= tops[2];
    }

    private static boolean doHold(List<Treaty> treaties, int[] tried) {
        for (Treaty treaty : treaties) {
            if (!treaty.holds(tried)) {
                return false;
            }
        }
        return true;
    }

    private void due(String call, int got, int want) {
        CHECKS.due(signed + " with " + heights[0] + ", " + heights[1] + ", " + heights[2] + ": " + call, got, want);
    }
}
