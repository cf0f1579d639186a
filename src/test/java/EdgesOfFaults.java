/** Each of the four FAULTS, its place, and which one is told where there are several. */
final class EdgesOfFaults {
    private static final String TWO = "size 2;series 1;series 0 1;";
    private static final String FULL = TWO + "series 1;series 1;series 1;series 1;";
    private static final String FOUR = TWO + "table 0 1;table 0 1;table 0 1;table 0 1;";

    private EdgesOfFaults() {
    }

    /** So many bytes up to where the last part begins; the blanks are put behind the first one. */
    private static String upTo(int place, String first, String last) {
        return Check.filled(first, place) + last;
    }

    @Sentence(of = "Terms", says = "FAULTS, the first along the text")
    static void firstOfSeveralFaultsIsTold(Check check) {
        check.fault("size 11;series 1 over 0;,", 5, 2);
        check.fault("size 2;series 1 over 0;size,", 21, 2);
        check.fault("size 2;,series 1 over 0;", 7, 1);
        check.fault(TWO + "table 0 0;,", TWO.length() + 8, 4);
        check.fault(TWO + "table 0 0,", TWO.length() + 8, 4);
        check.fault(TWO + "table 9 0;", TWO.length() + 6, 2);
        check.fault(TWO + "table 9 9;", TWO.length() + 6, 2);
        check.fault(FULL + "series,", FULL.length(), 3);
        check.fault("size 2;series 1 over 0 1 2 3;", 21, 2);
        check.fault("size 2;series 1 2 3 over 0;", 18, 1);
    }

    @Sentence(of = "Terms", says = "of one TOKEN the least")
    static void leastFaultOfOneToken(Check check) {
        // A seventh 'series', a fifth 'table', where none can come.
        check.fault(FULL.substring(0, FULL.length() - 1) + " series 1;", FULL.length(), 1);
        check.fault(FOUR.substring(0, FOUR.length() - 1) + " table 0 1;", FOUR.length(), 1);
        check.fault(FULL + "table series 1;", FULL.length() + 6, 1);
        check.fault(FOUR + "series table 0 1;", FOUR.length() + 7, 1);
        // A NUMBER that is none, and would not be as told.
        check.fault("size 0000;", 5, 1);
        check.fault("size 2;series 1 over 0000;", 21, 1);
        check.fault(TWO + "table 9999 1;", TWO.length() + 6, 1);
        // A second S that is not told, so that it makes no TABLE either.
        check.fault(TWO + "table 1 2;", TWO.length() + 8, 2);
        // A NUMBER beyond SIZE of them can't come, whatever it is.
        check.fault("size 2;series 1 over 1 2 0;", 25, 1);
    }

    @Sentence(of = "Terms", says = "1 no TOKEN, or one that can't come (at it")
    static void faultOneIsAtTheToken(Check check) {
        check.fault(",", 0, 1);
        check.fault("  \n ,", 4, 1);
        check.fault("size  X", 6, 1);
        check.fault("size 2 \n\n over 1;", 10, 1);
        check.fault("size 2;series 1 12345;", 16, 1);
        check.fault("size 2;\nseries \nseries 1;", 16, 1);
    }

    @Sentence(of = "Terms", says = "the end: how many bytes there are")
    static void faultAtTheEndOfTheText(Check check) {
        check.fault("size", 4, 1);
        check.fault("size 2", 6, 1);
        check.fault("size 2   ", 9, 1);
        check.fault("size 2;series", 13, 1);
        check.fault("size 2;series -", 15, 1);
        check.fault("size 2;series 1\n\n", 17, 1);
        check.fault("size 2;series 1 over", 20, 1);
        check.fault("size 2;series 1 over 1", 22, 1);
        check.fault(TWO + "table", TWO.length() + 5, 1);
        check.fault(TWO + "table 0 ", TWO.length() + 8, 1);
        check.fault(TWO + "table 0 1 ", TWO.length() + 10, 1);
        check.fault(Check.filled("size 2", 499), 499, 1);
        check.fault(Check.filled("size 2", 500), 500, 1);
    }

    @Sentence(of = "Terms", says = "500, if there are more and no FAULT is ahead")
    static void faultAt500OfLongerTexts(Check check) {
        check.fault(Check.filled("size 2", 501), 500, 1);
        check.fault(Check.filled("size 2", 540), 500, 1);
        check.fault(upTo(500, "size 2;", "series 1;"), 500, 1);
        check.fault(upTo(520, "size 2;", ","), 500, 1);
        check.fault(upTo(500, "size 2;", ","), 500, 1);
        check.fault(upTo(500, "size", "11;"), 500, 1);
        check.fault(upTo(500, FULL, "series 1;"), 500, 1);
        check.fault(upTo(500, TWO + "table 0 ", "0;"), 500, 1);
        check.fault(upTo(499, "size 2", "; "), 500, 1);
    }

    @Sentence(of = "Terms", says = "500, if there are more and no FAULT is ahead")
    static void faultAheadOf500OfLongerTexts(Check check) {
        check.fault(Check.filled("size 1;", 540), 5, 2);
        check.fault(Check.filled(",", 540), 0, 1);
        check.fault(Check.filled(TWO + "table 0 0;", 501), TWO.length() + 8, 4);
        check.fault(Check.filled(FULL + "series 1;", 501), FULL.length(), 3);
        check.fault(upTo(499, "size 2;", ", "), 499, 1);
        check.fault(upTo(499, "size 2", ";;"), 500, 1);
        check.fault(upTo(498, "size 2", ";;;"), 499, 1);
    }

    @Sentence(of = "Terms", says = "TOKENS that begin ahead of it are read whole")
    static void tokensAcross500AreReadWhole(Check check) {
        check.fault(upTo(499, "size 2;", "series 1;"), 500, 1);
        check.fault(upTo(499, "size 2;", "seriess 1;"), 499, 1);
        check.fault(upTo(499, "size 2;", "s"), 499, 1);
        check.fault(upTo(499, "size", "10;"), 500, 1);
        check.fault(upTo(499, "size", "1;"), 499, 2);
        check.fault(upTo(499, "size", "11;"), 499, 2);
        check.fault(upTo(498, "size", "010;"), 500, 1);
        check.fault(upTo(497, "size", "0010;"), 497, 1);
        check.fault(upTo(499, "size 2;series 1 over", "00;"), 499, 2);
        check.fault(upTo(499, "size 2;series 1 over", "01;"), 500, 1);
        check.fault(upTo(495, FULL, "series 1;"), 495, 3);
        check.fault(upTo(499, FOUR, "table 0 1;"), 499, 3);
        check.fault(upTo(499, FOUR, "tables 0 1;"), 499, 1);
        check.fault(upTo(499, TWO + "table 0", "000;"), 499, 4);
        check.fault(upTo(499, TWO + "table 0", "001;"), 500, 1);
        check.fault(upTo(499, "size 2;", "s".repeat(41)), 499, 1);
    }

    @Sentence(of = "Terms", says = "TOKENS that begin ahead of it are read whole")
    static void textOf500BytesEndsThere(Check check) {
        // What was cut off the tape is no part of the last TOKEN.
        SeriesTables x = new SeriesTables();
        Check.tape(x, upTo(499, "size", "11;").getBytes());
        x.end(500);
        check.same("'size 1' without a ';'", x.text(), -500);
        check.same("its kind", x.fault(), 2);
        Check.tape(x, upTo(493, "", "size 2;;").getBytes());
        x.end(500);
        check.same("'size 2;'", x.text(), 1);
    }

    @Sentence(of = "Terms", says = "2 a NUMBER that is not as told (at it)")
    static void faultTwoIsAtTheNumber(Check check) {
        check.fault("size \n 11 ;", 7, 2);
        check.fault("size 2;series 1 over  0;", 22, 2);
        check.fault("size 2;series 1 over - 0;", 23, 2);
        check.fault(TWO + "table  2 1;", TWO.length() + 7, 2);
        check.fault(TWO + "table 0  2;", TWO.length() + 9, 2);
    }

    @Sentence(of = "Terms", says = "3 a seventh SERIES, a fifth TABLE (at 'series', 'table')")
    static void faultThreeIsAtTheWord(Check check) {
        check.lines(FULL, 7);
        check.fault(FULL + "series 1;", FULL.length(), 3);
        check.fault(FULL + " \nseries", FULL.length() + 2, 3);
        check.fault(FULL + "table 0 1;series 1;", FULL.length() + 10, 3);
        check.lines(FOUR, 7);
        check.fault(FOUR + "table 0 1;", FOUR.length(), 3);
        check.fault(FOUR + " \ntable", FOUR.length() + 2, 3);
        check.fault(FOUR + "series 1;table 0 1;", FOUR.length() + 9, 3);
    }

    @Sentence(of = "Terms", says = "4 a second S that makes no TABLE with the first one (at it)")
    static void faultFourIsAtTheSecondNumber(Check check) {
        check.fault(TWO + "table 0 0;", TWO.length() + 8, 4);
        check.fault(TWO + "table 1 1;", TWO.length() + 8, 4);
        check.fault(TWO + "table 1   0;", TWO.length() + 10, 4);
        check.fault(TWO + "series 0 0;table 0 2;", TWO.length() + 19, 4);
        check.fault(TWO + "series 1 1;table 0 2;", TWO.length() + 19, 4);
        String three = "size 3;series 1;series 0 0 1;";
        check.fault(three + "table 0 1;", three.length() + 8, 4);
        check.lines(TWO + "series 0 -1;table 0 2;", 5);
    }
}
