/** All that the looks tell of a street, as one text to be compared. */
final class Looks {
    private Looks() {
    }

    /** All but the pad, the history, the snapshot and why(). */
    static String street(HedgeTreaties x) {
        StringBuilder text = new StringBuilder();
        for (int what = 0; what <= 10; what++) {
            text.append(x.count(what)).append(' ');
        }
        for (int hedge = 0; hedge < 8; hedge++) {
            for (int what = 0; what <= 7; what++) {
                text.append(x.hedge(hedge, what)).append(' ');
            }
        }
        int treaties = x.count(1);
        for (int treaty = 0; treaty < treaties; treaty++) {
            for (int what = 0; what <= 7; what++) {
                text.append(x.treaty(treaty, what)).append(' ');
            }
        }
        return text.toString();
    }

    /** The street, the pad, how long the history is, and why(). */
    static String all(HedgeTreaties x) {
        StringBuilder text = new StringBuilder(street(x));
        text.append(x.count(11)).append(' ').append(x.fault()).append(' ').append(x.count(12));
        for (int what = 0; what <= 2; what++) {
            text.append(' ').append(x.why(what));
        }
        return text.toString();
    }
}
