/** What an object shows of itself in calls that change nothing. */
final class Shown {
    private Shown() {
    }

    /** All but the latest FAULT. */
    static String all(SeriesTables x) {
        StringBuilder told = new StringBuilder();
        for (int what = 0; what <= 4; what++) {
            told.append(x.now(what)).append(' ');
        }
        return told.append(": ").append(places(x)).toString();
    }

    /** All places and THE FREE TABLE. A TABLE's columns 0 and 1 tell it whole. */
    static String places(SeriesTables x) {
        StringBuilder told = new StringBuilder();
        int size = x.now(0);
        for (int i = 0; i < size; i++) {
            for (int k = 0; k < 6; k++) {
                told.append(x.at(k, i)).append(' ');
            }
            for (int k = 0; k < 4; k++) {
                told.append(Check.entry(x, k, i, 0)).append(' ').append(Check.entry(x, k, i, 1)).append(' ');
            }
            for (int j = 0; j <= i; j++) {
                told.append(x.free(i, j)).append(' ');
            }
        }
        return told.toString();
    }
}
