/** A street of eight hedges, and the treaties about their heights. */
public final class HedgeTreaties {
    public static final int INVALID_ARGUMENT = -1;
    public static final int NOT_POSSIBLE = -2;
    public static final int LIMIT_REACHED = -3;
    public static final int NOT_FOUND = -4;

    private static final int HEDGES = 8;
    private static final int FIRST_HEIGHT = 10;
    private static final int MOST_HEIGHT = 99;
    private static final int FIRST_GROWTH = 1;
    private static final int MOST_GROWTH = 5;
    private static final int MOST_DAYS = 30;
    private static final int MOST_DAYS_TO_BREAK = 60;
    private static final int MOST_TREATIES = 14;
    private static final int LEAST_D = -30;
    private static final int MOST_D = 60;
    /** With its halves it spans all of LEAST_D to MOST_D. */
    private static final int LONGEST_STEP = 64;
    private static final int FIRST_CAKES = 10;
    private static final int MOST_SIGNS = 60;
    private static final int FIRST_CODE = 33;
    private static final int LAST_CODE = 126;
    private static final int MOST_STATES = 4;

    private static final int NO_REASON = 0;
    private static final int NOT_POSSIBLE_TOGETHER = 1;
    private static final int NOTHING_NEW = 2;
    private static final int BIRDS_NEST = 3;
    private static final int BELOW_GROUND = 4;
    private static final int NOT_FROZEN = 5;
    private static final int TOO_FEW_CAKES = 6;

    /** Added to what a deed brought, so that it is never taken for a reason. */
    private static final int AGREED = 10;
    private static final int ADDED_TO_D = 100;
    private static final int ADDED_TO_SUM = 1000;
    private static final int NO_ERROR = 0;
    private static final int NO_TREATY = -1;
    private static final int ANY_HEDGE = -1;
    /** Far above every sum of d along a row of treaties. */
    private static final int NO_BOUND = 1000000;

    private final Street street;
    private final Street snapshot;
    private final Street[] history;
    private final Surveyor surveyor;
    private final Pad pad;
    private int states;
    private boolean saved;
    /** The reason or error at which the latest signAll() stopped, NO_REASON if at none. */
    private int stopAnswer;
    private int stopPart;
    private int stopPosition;

    public HedgeTreaties() {
        street = new Street();
        snapshot = new Street();
        history = new Street[MOST_STATES];
        for (int state = 0; state < MOST_STATES; state++) {
            history[state] = new Street();
        }
        surveyor = new Surveyor();
        pad = new Pad();
    }

    // ---- hedges

    public int height(int hedge, int height) {
        if (!isHedge(hedge) || height < 0 || height > MOST_HEIGHT) {
            return INVALID_ARGUMENT;
        }
        remember();
        int before = street.heights[hedge];
        street.heights[hedge] = height;
        return before;
    }

    public int growth(int hedge, int growth) {
        if (!isHedge(hedge) || growth < 0 || growth > MOST_GROWTH) {
            return INVALID_ARGUMENT;
        }
        remember();
        int before = street.growths[hedge];
        street.growths[hedge] = growth;
        return before;
    }

    public int nest(int hedge, int days) {
        if (!isHedge(hedge) || days < 0 || days > MOST_DAYS) {
            return INVALID_ARGUMENT;
        }
        remember();
        int before = street.nestedUntil[hedge];
        street.nestedUntil[hedge] = street.today + days;
        return before;
    }

    public int clip(int hedge, int by) {
        if (!isHedge(hedge) || by < 1 || by > MOST_HEIGHT) {
            return INVALID_ARGUMENT;
        }
        remember();
        if (street.isNested(hedge)) {
            return refuse(BIRDS_NEST);
        }
        if (by > street.heights[hedge]) {
            return refuse(BELOW_GROUND);
        }
        street.cutOff(hedge, by);
        return AGREED + street.heights[hedge];
    }

    public int plan() {
        remember();
        if (!surveyor.findLeastClipping(street)) {
            return refuse(BELOW_GROUND);
        }
        if (isNestInTheWay()) {
            return refuse(BIRDS_NEST);
        }
        int together = 0;
        for (int hedge = 0; hedge < HEDGES; hedge++) {
            int by = street.heights[hedge] - surveyor.levels[hedge];
            if (by > 0) {
                street.cutOff(hedge, by);
                together += by;
            }
        }
        return AGREED + together;
    }

    public int day() {
        remember();
        street.passDay();
        return street.countBroken(ANY_HEDGE, 0);
    }

    // ---- treaties

    public int sign(int first, int other, int d) {
        int error = errorOfSigning(first, other, d);
        if (error != NO_ERROR) {
            return error;
        }
        remember();
        return signOne(first, other, d);
    }

    public int cancel(int treaty) {
        if (!isTreaty(treaty)) {
            return INVALID_ARGUMENT;
        }
        remember();
        street.removeTreaty(treaty);
        return street.treaties;
    }

    public int freeze(int treaty, int days) {
        if (!isTreaty(treaty) || days < 1 || days > MOST_DAYS) {
            return INVALID_ARGUMENT;
        }
        remember();
        if (street.isBroken(treaty)) {
            street.cakes++;
        }
        street.frozenUntil[treaty] = street.today + days;
        return street.cakes;
    }

    public int thaw(int treaty) {
        if (!isTreaty(treaty)) {
            return INVALID_ARGUMENT;
        }
        remember();
        if (street.isInForce(treaty)) {
            return refuse(NOT_FROZEN);
        }
        int price = street.frozenUntil[treaty] - street.today;
        if (price > street.cakes) {
            return refuse(TOO_FEW_CAKES);
        }
        street.cakes -= price;
        street.frozenUntil[treaty] = street.today;
        return AGREED + street.cakes;
    }

    // ---- texts

    public int append(int code) {
        if (code < FIRST_CODE || code > LAST_CODE) {
            return INVALID_ARGUMENT;
        }
        if (pad.length >= MOST_SIGNS) {
            return LIMIT_REACHED;
        }
        pad.codes[pad.length] = code;
        pad.length++;
        return pad.length;
    }

    public int clear() {
        int before = pad.length;
        pad.length = 0;
        return before;
    }

    public int fault() {
        return pad.read();
    }

    public int signAll() {
        if (pad.read() != NOT_FOUND) {
            return NOT_POSSIBLE;
        }
        remember();
        stopAnswer = NO_REASON;
        int signed = 0;
        for (int part = 0; part < pad.parts && stopAnswer == NO_REASON; part++) {
            int answer = signPart(part);
            if (answer >= AGREED) {
                signed++;
            } else {
                stopAnswer = answer;
                stopPart = part;
                stopPosition = pad.positions[part];
            }
        }
        pad.length = 0;
        return signed;
    }

    public int why(int what) {
        if (what < 0 || what > 2) {
            return INVALID_ARGUMENT;
        }
        if (stopAnswer == NO_REASON) {
            return NOT_FOUND;
        }
        switch (what) {
            case 0: return stopAnswer;
            case 1: return stopPart;
            default: return stopPosition;
        }
    }

    // ---- looks; nothing is changed

    public int hedge(int hedge, int what) {
        if (!isHedge(hedge)) {
            return INVALID_ARGUMENT;
        }
        switch (what) {
            case 0: return street.heights[hedge];
            case 1: return street.growths[hedge];
            case 2: return street.isNested(hedge) ? 1 : 0;
            case 3: return street.nestedUntil[hedge];
            case 4: return surveyor.findLeastClipping(street) ? surveyor.levels[hedge] : NOT_FOUND;
            case 5: return street.countBroken(hedge, 0);
            case 6: return street.countInForce(hedge);
            case 7: return street.clippedOff[hedge];
            default: return INVALID_ARGUMENT;
        }
    }

    public int treaty(int treaty, int what) {
        if (!isTreaty(treaty)) {
            return INVALID_ARGUMENT;
        }
        switch (what) {
            case 0: return street.firsts[treaty];
            case 1: return street.others[treaty];
            case 2: return street.ds[treaty] + ADDED_TO_D;
            case 3: return street.isInForce(treaty) ? 1 : 0;
            case 4: return street.isBroken(treaty) ? 1 : 0;
            case 5: return street.slackAfter(treaty, 0) + ADDED_TO_SUM;
            case 6: return street.frozenUntil[treaty];
            case 7: return isNothingNewBesideOthers(treaty) ? 1 : 0;
            default: return INVALID_ARGUMENT;
        }
    }

    public int bound(int first, int other, int way) {
        if (!isHedge(first) || !isHedge(other) || way < 0 || way > 1) {
            return INVALID_ARGUMENT;
        }
        int least = way == 0
                ? surveyor.boundByTreaties(street, first, other, NO_TREATY)
                : surveyor.boundByPairs(street, first, other);
        return least == NO_BOUND ? NOT_FOUND : least + ADDED_TO_SUM;
    }

    public int whyNot(int first, int other, int d) {
        return isAgreement(first, other, d) ? reasonAgainst(first, other, d) : INVALID_ARGUMENT;
    }

    public int clipping(int way) {
        if (way < 0 || way > 1) {
            return INVALID_ARGUMENT;
        }
        boolean found = way == 0
                ? surveyor.findLeastClipping(street)
                : surveyor.findLeastClippingByBounds(street);
        return found ? sum(street.heights) - sum(surveyor.levels) : NOT_FOUND;
    }

    public int count(int what) {
        switch (what) {
            case 0: return street.today;
            case 1: return street.treaties;
            case 2: return street.countInForce(ANY_HEDGE);
            case 3: return street.countBroken(ANY_HEDGE, 0);
            case 4: return sum(street.heights);
            case 5: return street.countNested();
            case 6: return street.cakes;
            case 7: return street.signedSoFar;
            case 8: return street.refusedSoFar;
            case 9: return street.clipsSoFar;
            case 10: return sum(street.clippedOff);
            case 11: return pad.length;
            case 12: return states;
            default: return INVALID_ARGUMENT;
        }
    }

    public double peace() {
        int inForce = street.countInForce(ANY_HEDGE);
        if (inForce <= 0) {
            return 1.0;
        }
        return (double) (inForce - street.countBroken(ANY_HEDGE, 0)) / (double) inForce;
    }

    // ---- what would be; nothing is changed

    public int ifDays(int days, int what) {
        if (days < 1 || days > MOST_DAYS) {
            return INVALID_ARGUMENT;
        }
        switch (what) {
            case 0: return street.countBroken(ANY_HEDGE, days);
            case 1: return street.heightsAfter(days);
            default: return INVALID_ARGUMENT;
        }
    }

    public int breaksIn() {
        for (int days = 0; days <= MOST_DAYS_TO_BREAK; days++) {
            if (street.countBroken(ANY_HEDGE, days) > 0) {
                return days;
            }
        }
        return NOT_FOUND;
    }

    public int tightest(int first, int other) {
        if (!isAgreement(first, other, MOST_D)) {
            return INVALID_ARGUMENT;
        }
        if (!surveyor.isPossibleWith(street, first, other, MOST_D)) {
            return NOT_FOUND;
        }
        int least = MOST_D;
        // What is possible with a d is so with every greater one: shorter and shorter steps do.
        for (int step = LONGEST_STEP; step > 0; step /= 2) {
            int d = least - step;
            if (d >= LEAST_D && surveyor.isPossibleWith(street, first, other, d)) {
                least = d;
            }
        }
        return least + ADDED_TO_D;
    }

    // ---- history, snapshot

    public int undo() {
        if (states <= 0) {
            return NOT_POSSIBLE;
        }
        states--;
        street.copyFrom(history[states]);
        return states;
    }

    public int save() {
        snapshot.copyFrom(street);
        saved = true;
        return street.treaties;
    }

    public int restore() {
        if (!saved) {
            return NOT_POSSIBLE;
        }
        remember();
        street.copyFrom(snapshot);
        return street.treaties;
    }

    private static boolean isHedge(int hedge) {
        return hedge >= 0 && hedge < HEDGES;
    }

    private boolean isTreaty(int treaty) {
        return treaty >= 0 && treaty < street.treaties;
    }

    private static boolean isAgreement(int first, int other, int d) {
        return isHedge(first) && isHedge(other) && first != other && d >= LEAST_D && d <= MOST_D;
    }

    private static int sum(int[] numbers) {
        int together = 0;
        for (int number : numbers) {
            together += number;
        }
        return together;
    }

    /** To be called when no error is left to come, and ahead of every change. */
    private void remember() {
        if (states >= MOST_STATES) {
            dropOldestState();
        }
        history[states].copyFrom(street);
        states++;
    }

    /** The dropped state goes behind the others, where it is written over. */
    private void dropOldestState() {
        Street oldest = history[0];
        for (int state = 1; state < MOST_STATES; state++) {
            history[state - 1] = history[state];
        }
        history[MOST_STATES - 1] = oldest;
        states = MOST_STATES - 1;
    }

    private int refuse(int reason) {
        street.refusedSoFar++;
        return reason;
    }

    private boolean isNestInTheWay() {
        for (int hedge = 0; hedge < HEDGES; hedge++) {
            if (street.isNested(hedge) && surveyor.levels[hedge] < street.heights[hedge]) {
                return true;
            }
        }
        return false;
    }

    private int errorOfSigning(int first, int other, int d) {
        if (!isAgreement(first, other, d)) {
            return INVALID_ARGUMENT;
        }
        return street.treaties >= MOST_TREATIES ? LIMIT_REACHED : NO_ERROR;
    }

    private int reasonAgainst(int first, int other, int d) {
        if (!surveyor.isPossibleWith(street, first, other, d)) {
            return NOT_POSSIBLE_TOGETHER;
        }
        boolean known = surveyor.boundByTreaties(street, first, other, NO_TREATY) <= d;
        return known ? NOTHING_NEW : NO_REASON;
    }

    private int signOne(int first, int other, int d) {
        int reason = reasonAgainst(first, other, d);
        if (reason != NO_REASON) {
            return refuse(reason);
        }
        street.addTreaty(first, other, d);
        return AGREED + street.treaties - 1;
    }

    private int signPart(int part) {
        int first = pad.firsts[part];
        int other = pad.others[part];
        int d = pad.ds[part];
        int error = errorOfSigning(first, other, d);
        return error != NO_ERROR ? error : signOne(first, other, d);
    }

    private boolean isNothingNewBesideOthers(int treaty) {
        int first = street.firsts[treaty];
        int other = street.others[treaty];
        return surveyor.boundByTreaties(street, first, other, treaty) <= street.ds[treaty];
    }

    /** All that is undone and restored: hedges, treaties, the day, cakes and counts. */
    private static final class Street {
        final int[] heights = new int[HEDGES];
        final int[] growths = new int[HEDGES];
        final int[] nestedUntil = new int[HEDGES];
        final int[] clippedOff = new int[HEDGES];
        final int[] firsts = new int[MOST_TREATIES];
        final int[] others = new int[MOST_TREATIES];
        final int[] ds = new int[MOST_TREATIES];
        final int[] frozenUntil = new int[MOST_TREATIES];
        int treaties;
        int today;
        int cakes = FIRST_CAKES;
        int signedSoFar;
        int refusedSoFar;
        int clipsSoFar;

        Street() {
            for (int hedge = 0; hedge < HEDGES; hedge++) {
                heights[hedge] = FIRST_HEIGHT;
                growths[hedge] = FIRST_GROWTH;
            }
        }

        void copyFrom(Street source) {
            for (int hedge = 0; hedge < HEDGES; hedge++) {
                heights[hedge] = source.heights[hedge];
                growths[hedge] = source.growths[hedge];
                nestedUntil[hedge] = source.nestedUntil[hedge];
                clippedOff[hedge] = source.clippedOff[hedge];
            }
            for (int treaty = 0; treaty < MOST_TREATIES; treaty++) {
                firsts[treaty] = source.firsts[treaty];
                others[treaty] = source.others[treaty];
                ds[treaty] = source.ds[treaty];
                frozenUntil[treaty] = source.frozenUntil[treaty];
            }
            treaties = source.treaties;
            today = source.today;
            cakes = source.cakes;
            signedSoFar = source.signedSoFar;
            refusedSoFar = source.refusedSoFar;
            clipsSoFar = source.clipsSoFar;
        }

        boolean isNested(int hedge) {
            return today < nestedUntil[hedge];
        }

        int countNested() {
            int nested = 0;
            for (int hedge = 0; hedge < HEDGES; hedge++) {
                nested += isNested(hedge) ? 1 : 0;
            }
            return nested;
        }

        int heightAfter(int hedge, int days) {
            return Math.min(MOST_HEIGHT, heights[hedge] + growths[hedge] * days);
        }

        int heightsAfter(int days) {
            int together = 0;
            for (int hedge = 0; hedge < HEDGES; hedge++) {
                together += heightAfter(hedge, days);
            }
            return together;
        }

        void passDay() {
            for (int hedge = 0; hedge < HEDGES; hedge++) {
                heights[hedge] = heightAfter(hedge, 1);
            }
            today++;
        }

        void cutOff(int hedge, int by) {
            heights[hedge] -= by;
            clippedOff[hedge] += by;
            clipsSoFar++;
        }

        void addTreaty(int first, int other, int d) {
            firsts[treaties] = first;
            others[treaties] = other;
            ds[treaties] = d;
            frozenUntil[treaties] = 0;
            treaties++;
            signedSoFar++;
        }

        void removeTreaty(int treaty) {
            for (int next = treaty + 1; next < treaties; next++) {
                firsts[next - 1] = firsts[next];
                others[next - 1] = others[next];
                ds[next - 1] = ds[next];
                frozenUntil[next - 1] = frozenUntil[next];
            }
            treaties--;
        }

        boolean isAbout(int treaty, int hedge) {
            return hedge == ANY_HEDGE || firsts[treaty] == hedge || others[treaty] == hedge;
        }

        boolean isInForce(int treaty) {
            return frozenUntil[treaty] <= today;
        }

        int countInForce(int hedge) {
            int inForce = 0;
            for (int treaty = 0; treaty < treaties; treaty++) {
                inForce += isAbout(treaty, hedge) && isInForce(treaty) ? 1 : 0;
            }
            return inForce;
        }

        /** By how much the first hedge could be higher then; below 0 if it is too high. */
        int slackAfter(int treaty, int days) {
            int most = heightAfter(others[treaty], days) + ds[treaty];
            return most - heightAfter(firsts[treaty], days);
        }

        boolean isBrokenAfter(int treaty, int days) {
            return frozenUntil[treaty] <= today + days && slackAfter(treaty, days) < 0;
        }

        boolean isBroken(int treaty) {
            return isBrokenAfter(treaty, 0);
        }

        int countBroken(int hedge, int days) {
            int broken = 0;
            for (int treaty = 0; treaty < treaties; treaty++) {
                broken += isAbout(treaty, hedge) && isBrokenAfter(treaty, days) ? 1 : 0;
            }
            return broken;
        }
    }

    /**
     * Finds bounds and levels. Its rows are made once and used again by every call.
     * All signed treaties together are always possible, so no row of treaties that
     * leads back to its start has a sum below 0, and HEDGES rounds settle everything.
     */
    private static final class Surveyor {
        final int[] levels = new int[HEDGES];
        private final int[] sums = new int[HEDGES];
        private final int[][] pairs = new int[HEDGES][HEDGES];

        /** NO_BOUND if no row of treaties leads there; the one to be left out may be NO_TREATY. */
        int boundByTreaties(Street street, int first, int other, int leftOut) {
            for (int hedge = 0; hedge < HEDGES; hedge++) {
                sums[hedge] = hedge == first ? 0 : NO_BOUND;
            }
            boolean less = true;
            for (int round = 0; round < HEDGES && less; round++) {
                less = shortenSums(street, leftOut);
            }
            return sums[other];
        }

        private boolean shortenSums(Street street, int leftOut) {
            boolean less = false;
            for (int treaty = 0; treaty < street.treaties; treaty++) {
                int soFar = sums[street.firsts[treaty]];
                if (treaty == leftOut || !street.isInForce(treaty) || soFar == NO_BOUND) {
                    continue;
                }
                int other = street.others[treaty];
                int onward = soFar + street.ds[treaty];
                if (onward < sums[other]) {
                    sums[other] = onward;
                    less = true;
                }
            }
            return less;
        }

        int boundByPairs(Street street, int first, int other) {
            findPairs(street);
            return pairs[first][other];
        }

        private void findPairs(Street street) {
            startPairs(street);
            for (int between = 0; between < HEDGES; between++) {
                for (int first = 0; first < HEDGES; first++) {
                    for (int other = 0; other < HEDGES; other++) {
                        joinPair(first, between, other);
                    }
                }
            }
        }

        private void startPairs(Street street) {
            for (int first = 0; first < HEDGES; first++) {
                for (int other = 0; other < HEDGES; other++) {
                    pairs[first][other] = first == other ? 0 : NO_BOUND;
                }
            }
            for (int treaty = 0; treaty < street.treaties; treaty++) {
                if (street.isInForce(treaty)) {
                    int first = street.firsts[treaty];
                    int other = street.others[treaty];
                    pairs[first][other] = Math.min(pairs[first][other], street.ds[treaty]);
                }
            }
        }

        private void joinPair(int first, int between, int other) {
            int there = pairs[first][between];
            int onward = pairs[between][other];
            if (there != NO_BOUND && onward != NO_BOUND && there + onward < pairs[first][other]) {
                pairs[first][other] = there + onward;
            }
        }

        /** Leaves the least clipping in the levels; false if there is none. */
        boolean findLeastClipping(Street street) {
            for (int hedge = 0; hedge < HEDGES; hedge++) {
                levels[hedge] = street.heights[hedge];
            }
            boolean lower = true;
            for (int round = 0; round < HEDGES && lower; round++) {
                lower = pressByTreaties(street, false);
            }
            return !lower && areLevelsAboveGround();
        }

        /** As findLeastClipping. */
        boolean findLeastClippingByBounds(Street street) {
            findPairs(street);
            for (int hedge = 0; hedge < HEDGES; hedge++) {
                int level = street.heights[hedge];
                for (int other = 0; other < HEDGES; other++) {
                    if (pairs[hedge][other] != NO_BOUND) {
                        level = Math.min(level, street.heights[other] + pairs[hedge][other]);
                    }
                }
                levels[hedge] = level;
            }
            return areLevelsAboveGround();
        }

        /**
         * Whether all signed treaties, frozen or not, can hold together with a new one.
         * If levels still sink after HEDGES rounds, they would sink without an end.
         */
        boolean isPossibleWith(Street street, int first, int other, int d) {
            for (int hedge = 0; hedge < HEDGES; hedge++) {
                levels[hedge] = MOST_HEIGHT;
            }
            boolean lower = true;
            for (int round = 0; round < HEDGES && lower; round++) {
                lower = press(first, other, d);
                if (pressByTreaties(street, true)) {
                    lower = true;
                }
            }
            return !lower && areLevelsAboveGround();
        }

        private boolean pressByTreaties(Street street, boolean frozenToo) {
            boolean lower = false;
            for (int treaty = 0; treaty < street.treaties; treaty++) {
                if (!frozenToo && !street.isInForce(treaty)) {
                    continue;
                }
                if (press(street.firsts[treaty], street.others[treaty], street.ds[treaty])) {
                    lower = true;
                }
            }
            return lower;
        }

        private boolean press(int first, int other, int d) {
            int most = levels[other] + d;
            if (levels[first] <= most) {
                return false;
            }
            levels[first] = most;
            return true;
        }

        private boolean areLevelsAboveGround() {
            for (int hedge = 0; hedge < HEDGES; hedge++) {
                if (levels[hedge] < 0) {
                    return false;
                }
            }
            return true;
        }
    }

    /** The characters of the pad, and the treaties that read() finds among them. */
    private static final class Pad {
        /** The shortest part takes four signs with its ";", which the last one goes without. */
        private static final int MOST_PARTS = (MOST_SIGNS + 1) / 4;

        private static final int WRONG = 0;
        private static final int AT_FIRST = 1;
        private static final int AT_LESS = 2;
        private static final int AT_OTHER = 3;
        private static final int BEHIND_OTHER = 4;
        private static final int AT_NUMBER = 5;
        private static final int IN_NUMBER = 6;

        final int[] codes = new int[MOST_SIGNS];
        int length;
        final int[] positions = new int[MOST_PARTS];
        final int[] firsts = new int[MOST_PARTS];
        final int[] others = new int[MOST_PARTS];
        final int[] ds = new int[MOST_PARTS];
        int parts;
        private int sign;
        private int number;
        private int mostNumber;

        /** Finds the parts, up to the fault; returns the fault, NOT_FOUND if there is none. */
        int read() {
            parts = 0;
            int place = AT_FIRST;
            for (int position = 0; position < length; position++) {
                place = placeBehind(position, place);
                if (place == WRONG) {
                    return position;
                }
            }
            return place == BEHIND_OTHER || place == IN_NUMBER ? NOT_FOUND : length;
        }

        private int placeBehind(int position, int place) {
            int code = codes[position];
            switch (place) {
                case AT_FIRST: return startPart(position);
                case AT_LESS: return code == '<' ? AT_OTHER : WRONG;
                case AT_OTHER: return takeOther(code);
                case BEHIND_OTHER: return takeSign(code);
                case AT_NUMBER: return code == '0' ? WRONG : takeDigit(code);
                case IN_NUMBER: return code == ';' ? AT_FIRST : takeDigit(code);
                default: return WRONG;
            }
        }

        private static boolean isDigit(int code, int mostDigit) {
            return code >= '0' && code - '0' <= mostDigit;
        }

        private int startPart(int position) {
            int code = codes[position];
            if (!isDigit(code, HEDGES - 1) || parts >= MOST_PARTS) {
                return WRONG;
            }
            positions[parts] = position;
            firsts[parts] = code - '0';
            ds[parts] = 0;
            parts++;
            return AT_LESS;
        }

        private int takeOther(int code) {
            if (!isDigit(code, HEDGES - 1)) {
                return WRONG;
            }
            others[parts - 1] = code - '0';
            return BEHIND_OTHER;
        }

        private int takeSign(int code) {
            switch (code) {
                case ';': return AT_FIRST;
                case '+': return startNumber(1, MOST_D);
                case '-': return startNumber(-1, -LEAST_D);
                default: return WRONG;
            }
        }

        private int startNumber(int signOfNumber, int most) {
            sign = signOfNumber;
            number = 0;
            mostNumber = most;
            return AT_NUMBER;
        }

        private int takeDigit(int code) {
            if (!isDigit(code, 9)) {
                return WRONG;
            }
            number = number * 10 + code - '0';
            if (number > mostNumber) {
                return WRONG;
            }
            ds[parts - 1] = sign * number;
            return IN_NUMBER;
        }
    }
}
