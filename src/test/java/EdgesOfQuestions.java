/** KINDS of tables, where two differ, where an identity fails: the limits that the document names. */
final class EdgesOfQuestions {
    private static final int LEAST = Integer.MIN_VALUE;
    private static final int MOST = Integer.MAX_VALUE;
    private static final int[] NO_SERIES = {-1, 6, 7, LEAST, MOST};
    private static final int[] NO_TABLE = {-1, 4, 5, LEAST, MOST};

    private EdgesOfQuestions() {
    }

    private static int kindsOf(int size, String g, String f) {
        return Check.told("size " + size + ";series " + g + ";series " + f + ";table 0 1;").kinds(0);
    }

    @Sentence(of = "Terms", says = "KINDS (bits): 1: f is t; 2: g is 1; 4: f is t g;")
    static void firstThreeKindsButForTheLastCoefficient(Check check) {
        check.same("f is t", kindsOf(4, "1 2 5", "0 1 0 0"), 1);
        check.same("f is t but for its last one", kindsOf(4, "1 2 5", "0 1 0 1"), 0);
        check.same("f is t but for its coefficient 2", kindsOf(4, "1 2 5", "0 1 1 0"), 0);
        check.same("f is 2t", kindsOf(4, "1 2 5", "0 2 0 0"), 0);
        check.same("g is 1", kindsOf(4, "1 0 0 0", "0 2 1"), 2);
        check.same("g is 1 but for its last one", kindsOf(4, "1 0 0 1", "0 2 1"), 0);
        check.same("g is 1 but for its coefficient 1", kindsOf(4, "1 1 0 0", "0 2 1"), 0);
        check.same("g is 2", kindsOf(4, "2 0 0 0", "0 3 1"), 0);
        check.same("f is t g", kindsOf(4, "1 3 5 7", "0 1 3 5"), 4);
        check.same("f is t g but for its last one", kindsOf(4, "1 3 5 7", "0 1 3 6"), 0);
        check.same("f is t g but for its coefficient 1", kindsOf(4, "2 3 5 7", "0 1 3 5"), 0);
    }

    @Sentence(of = "Terms", says = "(coefficients 0 to SIZE less 2 alone are looked at)")
    static void fourthKindLooksAtAllButTheLastOne(Check check) {
        check.same("all", kindsOf(4, "2 6 15 0", "0 2 3 5"), 8);
        check.same("the last one is not looked at", kindsOf(4, "2 6 15 999", "0 2 3 5"), 8);
        check.same("the last but one is", kindsOf(4, "2 6 16 0", "0 2 3 5"), 0);
        check.same("coefficient 0 is", kindsOf(4, "3 6 15 0", "0 2 3 5"), 0);
        check.same("at SIZE 2 coefficient 0 alone", kindsOf(2, "3 7", "0 3"), 4 + 8);
        check.same("at SIZE 2 coefficient 0 alone", kindsOf(2, "3 7", "0 2"), 0);
    }

    @Sentence(of = "Terms", says = "16: ENTRIES with i and j together odd are 0")
    static void fifthKindAtTheLastEntry(Check check) {
        check.same("none", kindsOf(4, "2 0 3 0", "0 3 0 1"), 16);
        check.same("in column 0, the last row", kindsOf(4, "2 0 3 1", "0 3 0 1"), 0);
        check.same("in column 1, row 2", kindsOf(4, "2 0 3 0", "0 3 1 1"), 0);
        check.same("at SIZE 2", kindsOf(2, "2 0", "0 3"), 16);
        check.same("at SIZE 2", kindsOf(2, "2 1", "0 3"), 0);
    }

    @Sentence(of = "Terms", says = "32: it is its own INVERSE")
    static void sixthKindNeedsBothSeries(Check check) {
        check.same("both", kindsOf(4, "1 over 1-1", "0-1 over 1-1"), 32);
        check.same("f alone", kindsOf(4, "2 over 1-1", "0-1 over 1-1"), 0);
        check.same("g alone", kindsOf(4, "-1", "0 3 1"), 0);
        check.same("-1 and t", kindsOf(4, "-1", "0 1"), 1 + 16 + 32);
        check.same("but for the last coefficient of g", kindsOf(4, "1 0 0 1", "0 1"), 1 + 4 + 8);
        check.same("at SIZE 2", kindsOf(2, "1 5", "0-1"), 32);
        check.same("at SIZE 2", kindsOf(2, "1 5", "0 1"), 1 + 4 + 8);
    }

    @Sentence(of = "Promise 20", says = "KINDS; NONE: no such TABLE, no SIZE")
    static void kindsOfNoTable(Check check) {
        SeriesTables x = Check.told("size 3;");
        for (int table : NO_TABLE) {
            check.same("table " + table, x.kinds(table), -1);
        }
        for (int table = 0; table < 4; table++) {
            check.same("ONE has all", x.kinds(table), 63);
            check.same("no SIZE", new SeriesTables().kinds(table), -1);
        }
        check.same("none of them", kindsOf(3, "2 1", "0 3 1"), 0);
    }

    @Sentence(of = "Promise 21", says = "The first place (row by row, 10 times the row and the column) at which two TABLES differ (how 0)")
    static void firstAndLastPlaceOfADifference(Check check) {
        SeriesTables x = Check.told("size 10;series 1;series 0 1;series 2;series 0 3;series 1 0 0 0 0 0 0 0 0 1;"
            + "series 0 1 0 0 0 0 0 0 0 1;table 2 1;table 0 3;table 4 1;table 0 5;");
        check.same("0: coefficient 0 of g", x.differ(0, 1, 0), 0);
        check.same("two that differ at 90 and 91", x.differ(2, 3, 0), 90);
        x.pair(0, 1, 0);
        check.same("11: coefficient 1 of f", x.differ(0, 1, 0), 11);
        check.same("90: the last one of g", x.differ(0, 2, 0), 90);
        check.same("91: the last one of f", x.differ(0, 3, 0), 91);
        check.same("the other way round", x.differ(3, 0, 0), 91);
        SeriesTables two = Check.told("size 2;series 1;series 0 1;series 1 1;series 0 3;table 2 1;table 0 3;");
        check.same("10 at SIZE 2", two.differ(0, 3, 0), 10);
        check.same("11 at SIZE 2", two.differ(1, 3, 0), 11);
        check.same("row by row", two.differ(0, 1, 0), 10);
    }

    @Sentence(of = "Promise 21", says = "PRODUCTS of both, the first one first and last (1)")
    static void productsOfBothDiffer(Check check) {
        // (2, t) and (1 + t, t) change places, (1 + t, t) and (1, 2t) do not: g (g(f)) is 1 + 2t, 1 + t.
        SeriesTables x = Check.told("size 2;series 2;series 1 1;series 1;series 0 1;series 0 2;"
            + "table 0 3;table 1 3;table 2 4;");
        check.same("they can", x.differ(0, 1, 1), -1);
        check.same("they can't", x.differ(1, 2, 1), 10);
        check.same("they can't", x.differ(2, 1, 1), 10);
        // (1, t + t^9) and (1, 2t): 2t + 2t^9 against 2t + 512t^9.
        SeriesTables ten = Check.told("size 10;series 1;series 0 1 0 0 0 0 0 0 0 1;series 0 2;table 0 1;table 0 2;");
        check.same("the last place", ten.differ(0, 1, 1), 91);
        check.same("they differ themselves", ten.differ(0, 1, 0), 11);
    }

    @Sentence(of = "Promise 21", says = "last (1); NONE: none, no such ones")
    static void noDifferenceAndNoTables(Check check) {
        SeriesTables x = Check.told("size 3;series 2 1;series 0 3 1;table 0 1;table 0 1;");
        check.same("of itself", x.differ(0, 0, 0), -1);
        check.same("of the same", x.differ(0, 1, 0), -1);
        check.same("of itself, products", x.differ(0, 0, 1), -1);
        check.same("with ONE, products", x.differ(0, 3, 1), -1);
        for (int how = 0; how <= 1; how++) {
            for (int table : NO_TABLE) {
                check.same("s " + table, x.differ(table, 3, how), -1);
                check.same("t " + table, x.differ(0, table, how), -1);
            }
            check.same("no SIZE", new SeriesTables().differ(0, 1, how), -1);
        }
        for (int how : new int[] {-1, 2, 3, LEAST, MOST}) {
            check.same("how " + how, x.differ(0, 3, how), -1);
        }
        check.same("they differ", x.differ(0, 3, 0), 0);
    }

    @Sentence(of = "Promise 22", says = "The least n for which what a TABLE makes of SERIES a is not b's coefficient n")
    static void identityFailsAtTheFirstAndLastCoefficient(Check check) {
        SeriesTables x = Check.told("size 10;series 1 over 1-1;series 0 1 over 1-1;series 1 over 1-2;table 0 1;");
        check.same("it holds", x.fails(0, 0, 2), -1);
        x.put(2, 9, 511);
        check.same("the last one", x.fails(0, 0, 2), 9);
        x.put(2, 5, 31);
        check.same("the least of two", x.fails(0, 0, 2), 5);
        x.put(2, 0, 0);
        check.same("the first one", x.fails(0, 0, 2), 0);
        SeriesTables two = Check.told("size 2;series 2 6;series 0 5;series 4 72;table 0 1;");
        check.same("it holds at SIZE 2", two.fails(0, 0, 2), -1);
        two.put(2, 1, 73);
        check.same("the last one at SIZE 2", two.fails(0, 0, 2), 1);
    }

    @Sentence(of = "Promise 22", says = "NONE: none, no such ones")
    static void identityOfWhatThereIsNot(Check check) {
        SeriesTables x = Check.told("size 3;series 1;series 2;");
        check.same("ONE makes a of a", x.fails(3, 0, 0), -1);
        check.same("and not b", x.fails(3, 0, 1), 0);
        for (int table : NO_TABLE) {
            check.same("table " + table, x.fails(table, 0, 1), -1);
        }
        for (int series : NO_SERIES) {
            check.same("a " + series, x.fails(0, series, 1), -1);
            check.same("b " + series, x.fails(0, 0, series), -1);
        }
        check.same("no SIZE", new SeriesTables().fails(0, 0, 0), -1);
    }
}
