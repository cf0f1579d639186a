/** Tables and what comes of them at the limits that the document names. */
final class EdgesOfTables {
    private static final int LEAST = Integer.MIN_VALUE;
    private static final int MOST = Integer.MAX_VALUE;
    private static final int[] NO_SERIES = {-1, 6, 7, LEAST, MOST};
    private static final int[] NO_TABLE = {-1, 4, 5, LEAST, MOST};
    private static final String PASCAL = "size 4;series 1 over 1-1;series 0 1 over 1-1;table 0 1;";
    private static final String PASCAL_OF_TEN = "size 10;series 1 over 1-1;series 0 1 over 1-1;table 0 1;";
    private static final String OF_TWO = "size 2;series 2 6;series 0 5;table 0 1;";

    private EdgesOfTables() {
    }

    @Sentence(of = "Terms", says = "TABLES in places 0 to 3 (at first g = 1, f = t)")
    static void tablesAreAtFirstOne(Check check) {
        for (int size = 2; size <= 10; size += 4) {
            SeriesTables x = Check.told("size " + size + ";");
            for (int table = 0; table < 4; table++) {
                for (int i = 0; i < size; i++) {
                    for (int j = 0; j < size; j++) {
                        check.same("entry", Check.entry(x, table, i, j), i == j ? 1 : 0);
                    }
                }
            }
            check.same("no place 4", Check.entry(x, 4, 0, 0), Check.THROWN);
        }
    }

    @Sentence(of = "Terms", says = "A TABLE is of a SERIES g (its coefficient 0 is not 0)")
    static void gThatBeginsWithZero(Check check) {
        SeriesTables x = Check.told("size 3;series 0 1 1;series 0 1;series 1;");
        check.same("t + tt", x.pair(0, 1, 0), -1);
        check.same("0", x.pair(5, 1, 0), -1);
        x.put(0, 0, 1000003);
        check.same("1,000,003", x.pair(0, 1, 0), -1);
        x.put(0, 0, 1000002);
        check.same("1,000,002", x.pair(0, 1, 0), 1);
    }

    @Sentence(of = "Terms", says = "and a SERIES f (coefficient 0 is 0, 1 is not 0)")
    static void fThatBeginsOtherwise(Check check) {
        SeriesTables x = Check.told("size 3;series 1;series 1 1;series 0 0 1;series 0 -1;");
        check.same("1 + t", x.pair(0, 1, 0), -1);
        check.same("1", x.pair(0, 0, 0), -1);
        check.same("tt", x.pair(0, 2, 0), -1);
        check.same("0", x.pair(0, 5, 0), -1);
        check.same("-t", x.pair(0, 3, 0), 0);
        check.same("-t", Check.entry(x, 0, 1, 1), 1000002);
    }

    @Sentence(of = "Terms", says = "its ENTRY in row i, column j (0 to SIZE less 1): coefficient i of g multiplied by f so many "
        + "times as j tells")
    static void entriesOfTheFirstAndLastColumn(Check check) {
        SeriesTables two = Check.told(OF_TWO);
        int[] due = {2, 0, 6, 10};
        for (int k = 0; k < 4; k++) {
            check.same("at SIZE 2", Check.entry(two, 0, k / 2, k % 2), due[k]);
        }
        SeriesTables ten = Check.told("size 10;series 3 1 4 1 5 9 2 6 5 7;series 0 2;table 0 1;");
        int[] g = {3, 1, 4, 1, 5, 9, 2, 6, 5, 7};
        for (int i = 0; i < 10; i++) {
            check.same("column 0 is g", Check.entry(ten, 0, i, 0), g[i]);
            check.same("the diagonal", Check.entry(ten, 0, i, i), 3 << i);
            check.same("the last row", Check.entry(ten, 0, 9, i), g[9 - i] << i);
            check.same("the last column", Check.entry(ten, 0, i, 9), i == 9 ? 3 * 512 : 0);
        }
    }

    @Sentence(of = "Promise 12", says = "the ENTRY in the last row, column 1")
    static void pairAnswersTheLastRow(Check check) {
        SeriesTables two = Check.told("size 2;series 2 6;series 0 5;");
        check.same("at SIZE 2", two.pair(0, 1, 3), 10);
        check.same("its place", Check.entry(two, 3, 1, 1), 10);
        check.same("another place stays", Check.entry(two, 2, 1, 1), 1);
        SeriesTables ten = Check.told("size 10;series 1;series 0 1 0 0 0 0 0 0 0 7;");
        check.same("at SIZE 10", ten.pair(0, 1, 0), 7);
    }

    @Sentence(of = "Promise 12", says = "NONE: no such ones, no TABLE, no SIZE")
    static void pairOfWhatThereIsNot(Check check) {
        SeriesTables x = Check.told("size 3;series 1;series 0 1;series 0 0 1;");
        for (int series : NO_SERIES) {
            check.same("g " + series, x.pair(series, 1, 0), -1);
            check.same("f " + series, x.pair(0, series, 0), -1);
        }
        for (int table : NO_TABLE) {
            check.same("to " + table, x.pair(0, 1, table), -1);
        }
        check.same("no TABLE", x.pair(0, 2, 0), -1);
        check.same("no SIZE", new SeriesTables().pair(0, 1, 0), -1);
        check.same("no act", x.now(3), 0);
        check.same("the last places", x.pair(0, 1, 3), 0);
    }

    @Sentence(of = "Promise 13", says = "ENTRY of a TABLE (0 above the diagonal)")
    static void entriesAboveTheDiagonal(Check check) {
        SeriesTables x = Check.told(PASCAL_OF_TEN);
        for (int i = 0; i < 10; i++) {
            check.same("on the diagonal", Check.entry(x, 0, i, i), 1);
            for (int j = i + 1; j < 10; j++) {
                check.same("above it", Check.entry(x, 0, i, j), 0);
            }
        }
        check.same("below it", Check.entry(x, 0, 9, 8), 9);
        check.same("below it", Check.entry(x, 0, 9, 4), 126);
    }

    @Sentence(of = "Promise 13", says = "NoSuchElementException: no such TABLE, row, column")
    static void entryOfNoTable(Check check) {
        SeriesTables x = Check.told(PASCAL);
        for (int table : NO_TABLE) {
            check.same("table " + table, Check.entry(x, table, 0, 0), Check.THROWN);
        }
        check.same("table 3", Check.entry(x, 3, 0, 0), 1);
    }

    @Sentence(of = "Promise 13", says = "NoSuchElementException: no such TABLE, row, column")
    static void entryOfNoRowOrColumn(Check check) {
        for (int size = 2; size <= 10; size++) {
            SeriesTables x = Check.told("size " + size + ";");
            for (int place : new int[] {-1, size, 10, LEAST, MOST}) {
                check.same("row " + place, Check.entry(x, 0, place, 0), Check.THROWN);
                check.same("column " + place, Check.entry(x, 0, 0, place), Check.THROWN);
                check.same("both " + place, Check.entry(x, 0, place, place), Check.THROWN);
            }
            check.same("the last row and column", Check.entry(x, 0, size - 1, size - 1), 1);
        }
        check.same("without SIZE", Check.entry(new SeriesTables(), 0, 0, 0), Check.THROWN);
    }

    @Sentence(of = "Promise 14", says = "PRODUCT of two TABLES comes to a place: as pair()")
    static void productsAtTheirLimits(Check check) {
        SeriesTables two = Check.told(OF_TWO);
        check.same("at SIZE 2", two.times(0, 0, 3), 100);
        check.same("g g(f)", Check.entry(two, 3, 1, 0), 12 + 60);
        check.same("ONE first", two.times(1, 0, 2), 10);
        check.same("ONE last", two.times(0, 1, 2), 10);
        check.same("both are the TABLE", two.differ(2, 0, 0), -1);
        check.same("to its own place", two.times(0, 0, 0), 100);
        SeriesTables ten = Check.told(PASCAL_OF_TEN);
        check.same("at SIZE 10", ten.times(0, 0, 0), 9 * 256);
    }

    @Sentence(of = "Promise 14", says = "NONE: no such ones, no SIZE")
    static void productOfWhatThereIsNot(Check check) {
        SeriesTables x = Check.told(PASCAL);
        for (int table : NO_TABLE) {
            check.same("s " + table, x.times(table, 0, 0), -1);
            check.same("t " + table, x.times(0, table, 0), -1);
            check.same("to " + table, x.times(0, 0, table), -1);
        }
        check.same("no SIZE", new SeriesTables().times(0, 0, 0), -1);
        check.same("no act", x.now(3), 0);
    }

    @Sentence(of = "Terms", says = "POWER k: k times (0: ONE; below 0 of the INVERSE)")
    static void powersAboutZero(Check check) {
        SeriesTables x = Check.told(OF_TWO);
        check.same("0", x.power(0, 0, 3), 1);
        check.same("0: ONE", x.kinds(3), 63);
        check.same("1", x.power(0, 1, 3), 10);
        check.same("1: itself", x.differ(0, 3, 0), -1);
        check.same("-1", x.power(0, -1, 3), Check.quotient(1, 10));
        check.same("-1 by it: ONE", x.times(3, 0, 2), 1);
        check.same("-1 by it: ONE", x.kinds(2), 63);
        check.same("it by -1: ONE", x.times(0, 3, 2), 1);
        check.same("it by -1: ONE", x.kinds(2), 63);
    }

    @Sentence(of = "Promise 15", says = "POWER k (-9 to 9) of a TABLE")
    static void powersNineAndBelowZeroNine(Check check) {
        SeriesTables x = Check.told(PASCAL);
        // Column 1 of Pascal's triangle to the power k, row 3: 3 k k.
        for (int k = -9; k <= 9; k++) {
            check.same("k " + k, x.power(0, k, 3), 3 * k * k);
            check.same("row 1, k " + k, Check.entry(x, 3, 1, 0), Math.floorMod(k, Check.P));
        }
        check.same("in place", x.power(0, -9, 0), 243);
        check.same("and back", x.times(0, 3, 1), 0);
        check.same("and back", x.kinds(1), 63);
    }

    @Sentence(of = "Promise 15", says = "POWER k (-9 to 9) of a TABLE: likewise")
    static void powersBesideTheLimits(Check check) {
        SeriesTables x = Check.told(PASCAL);
        for (int k : new int[] {-10, 10, -11, 11, LEAST, MOST}) {
            check.same("k " + k, x.power(0, k, 0), -1);
        }
        for (int table : NO_TABLE) {
            check.same("t " + table, x.power(table, 1, 0), -1);
            check.same("t " + table + ", k 0", x.power(table, 0, 0), -1);
            check.same("to " + table, x.power(0, 1, table), -1);
        }
        check.same("no SIZE", new SeriesTables().power(0, 0, 0), -1);
        check.same("no act", x.now(3), 0);
    }

    @Sentence(of = "Terms", says = "both with the last coefficient (SIZE less 1) 0, which is not told by the TABLE")
    static void lastCoefficientOfAAndZ(Check check) {
        SeriesTables two = Check.told(OF_TWO);
        check.same("A at SIZE 2", two.part(0, 2, 5), 5);
        check.row("A at SIZE 2", two, 5, 5, 0);
        check.same("Z at SIZE 2", two.part(0, 3, 5), 3);
        check.row("Z at SIZE 2", two, 5, 3, 0);
        // g 1 + t, f 2t: 1 less 1 by g is t - tt, and t is f by 2: Z is 1 less f by 2.
        SeriesTables three = Check.told("size 3;series 1 1;series 0 2;table 0 1;");
        three.part(3, 2, 5);
        check.same("Z at SIZE 3, behind A of ONE", three.part(0, 3, 5), 1);
        check.row("Z at SIZE 3", three, 5, 1, Check.P - Check.quotient(1, 2), 0);
        // Of Catalan's triangle A and Z are 1 by (1 less t).
        SeriesTables ten = Check.told("size 10;series 1 1 2 5 14 42 132 429;series 0 1 1 2 5 14 42 132 429;");
        ten.put(0, 8, 1430);
        ten.put(0, 9, 4862);
        ten.put(1, 9, 1430);
        ten.pair(0, 1, 0);
        check.same("A at SIZE 10", ten.part(0, 2, 5), 1);
        check.row("A at SIZE 10", ten, 5, 1, 1, 1, 1, 1, 1, 1, 1, 1, 0);
        check.same("Z at SIZE 10", ten.part(0, 3, 5), 1);
        check.row("Z at SIZE 10", ten, 5, 1, 1, 1, 1, 1, 1, 1, 1, 1, 0);
    }

    @Sentence(of = "Promise 16", says = "Of a TABLE g (0), f (1), A (2), Z (3) comes to a place of SERIES: its coefficient 0")
    static void coefficientZeroIsTheAnswer(Check check) {
        SeriesTables x = Check.told("size 3;series 7 8 9;series 0 2 3;table 0 1;");
        check.same("g", x.part(0, 0, 5), 7);
        check.row("g", x, 5, 7, 8, 9);
        check.same("f", x.part(0, 1, 5), 0);
        check.row("f", x, 5, 0, 2, 3);
        check.same("A", x.part(0, 2, 5), 2);
        check.same("Z", x.part(0, 3, 5), Check.quotient(8, 7));
        check.same("A of ONE", x.part(3, 2, 5), 1);
        check.row("A of ONE", x, 5, 1, 0, 0);
        check.same("Z of ONE", x.part(3, 3, 5), 0);
        check.row("Z of ONE", x, 5, 0, 0, 0);
    }

    @Sentence(of = "Promise 16", says = "its coefficient 0; NONE: no such ones, no SIZE")
    static void partOfWhatThereIsNot(Check check) {
        SeriesTables x = Check.told(PASCAL);
        for (int what : new int[] {-1, 4, 5, LEAST, MOST}) {
            check.same("what " + what, x.part(0, what, 5), -1);
        }
        for (int what = 0; what <= 3; what++) {
            for (int table : NO_TABLE) {
                check.same("table " + table, x.part(table, what, 5), -1);
            }
            for (int series : NO_SERIES) {
                check.same("to " + series, x.part(0, what, series), -1);
            }
            check.same("no SIZE", new SeriesTables().part(0, what, 0), -1);
        }
        check.same("no act", x.now(3), 0);
    }

    @Sentence(of = "Promise 17", says = "What a TABLE makes of a SERIES comes to a place of SERIES: the last coefficient")
    static void appliedAtTheirLimits(Check check) {
        SeriesTables two = Check.told(OF_TWO);
        check.same("at SIZE 2", two.apply(0, 0, 5), 6 * 2 + 10 * 6);
        check.row("at SIZE 2", two, 5, 4, 72);
        check.same("of 0", two.apply(0, 4, 5), 0);
        check.same("ONE, in place", two.apply(3, 0, 0), 6);
        check.row("ONE, in place", two, 0, 2, 6);
        SeriesTables ten = Check.told(PASCAL_OF_TEN);
        check.same("at SIZE 10", ten.apply(0, 0, 0), 512);
        check.row("at SIZE 10", ten, 0, 1, 2, 4, 8, 16, 32, 64, 128, 256, 512);
    }

    @Sentence(of = "Promise 17", says = "the last coefficient; NONE likewise")
    static void appliedToWhatThereIsNot(Check check) {
        SeriesTables x = Check.told(PASCAL);
        for (int table : NO_TABLE) {
            check.same("table " + table, x.apply(table, 0, 0), -1);
        }
        for (int series : NO_SERIES) {
            check.same("series " + series, x.apply(0, series, 0), -1);
            check.same("to " + series, x.apply(0, 0, series), -1);
        }
        check.same("no SIZE", new SeriesTables().apply(0, 0, 0), -1);
        check.same("no act", x.now(3), 0);
    }

    @Sentence(of = "Terms", says = "SUMS: 0 of rows; 1 of rows with signs (column 0 counts, 1 counts against, 2 counts, ..); "
        + "2 of ENTRY(n, k) by k; 3 of ENTRY(n less k, k)")
    static void sumsAtSizeTwoAndTen(Check check) {
        SeriesTables two = Check.told(OF_TWO);
        int[][] due = {{2, 16}, {2, -4}, {0, 10}, {2, 6}};
        for (int how = 0; how <= 3; how++) {
            check.same("at SIZE 2, how " + how, two.sums(0, how, 5), Math.floorMod(due[how][1], Check.P));
            check.row("at SIZE 2, how " + how, two, 5, due[how][0], due[how][1]);
        }
        SeriesTables ten = Check.told(PASCAL_OF_TEN);
        check.same("at SIZE 10, how 0", ten.sums(0, 0, 5), 512);
        check.same("at SIZE 10, how 1", ten.sums(0, 1, 5), 0);
        check.same("at SIZE 10, how 2", ten.sums(0, 2, 5), 9 * 256);
        check.same("at SIZE 10, how 3", ten.sums(0, 3, 5), 55);
        check.row("at SIZE 10, how 3", ten, 5, 1, 1, 2, 3, 5, 8, 13, 21, 34, 55);
        ten.sums(3, 1, 5);
        check.row("the signs of ONE", ten, 5, 1, -1, 1, -1, 1, -1, 1, -1, 1, -1);
        ten.sums(3, 2, 5);
        check.row("ONE by k", ten, 5, 0, 1, 2, 3, 4, 5, 6, 7, 8, 9);
        ten.sums(3, 3, 5);
        check.row("ONE aslant", ten, 5, 1, 0, 1, 0, 1, 0, 1, 0, 1, 0);
    }

    @Sentence(of = "Promise 18", says = "SUMS of a TABLE (how 0 to 3): likewise")
    static void sumsBesideTheLimits(Check check) {
        SeriesTables x = Check.told(PASCAL);
        for (int how : new int[] {-1, 4, 5, LEAST, MOST}) {
            check.same("how " + how, x.sums(0, how, 0), -1);
        }
        for (int how = 0; how <= 3; how++) {
            for (int table : NO_TABLE) {
                check.same("table " + table, x.sums(table, how, 0), -1);
            }
            for (int series : NO_SERIES) {
                check.same("to " + series, x.sums(0, how, series), -1);
            }
            check.same("no SIZE", new SeriesTables().sums(0, how, 0), -1);
        }
        check.same("no act", x.now(3), 0);
    }

    @Sentence(of = "Terms", says = "PRODUCTION of a TABLE (rows, columns 0 to SIZE less 2)")
    static void productionsFirstAndLastPlace(Check check) {
        SeriesTables two = Check.told(OF_TWO);
        check.same("at SIZE 2", Check.production(two, 0, 0, 0), 3);
        SeriesTables ten = Check.told(PASCAL_OF_TEN);
        for (int i = 0; i <= 8; i++) {
            for (int j = 0; j <= 8; j++) {
                int due = j == i || j == i + 1 ? 1 : 0;
                check.same("of Pascal's, " + i + " " + j, Check.production(ten, 0, i, j), due);
            }
        }
        check.same("of ONE, the diagonal above", Check.production(ten, 3, 7, 8), 1);
        check.same("of ONE, the last place", Check.production(ten, 3, 8, 8), 0);
    }

    @Sentence(of = "Terms", says = "the matrix M for which the TABLE (without its last row) times M is the TABLE without its "
        + "first row (and its last column)")
    static void productionOfTheLargestTable(Check check) {
        SeriesTables x = Check.told("size 10;series 3 1 4 1 5 9 2 6 5 3;series 0 2 7 1 8 2 8 1 8 2;table 0 1;");
        long[][] entries = new long[10][10];
        long[][] production = new long[9][9];
        for (int i = 0; i < 10; i++) {
            for (int j = 0; j < 10; j++) {
                entries[i][j] = Check.entry(x, 0, i, j);
                if (i < 9 && j < 9) {
                    production[i][j] = Check.production(x, 0, i, j);
                }
            }
        }
        for (int i = 0; i < 9; i++) {
            for (int j = 0; j < 9; j++) {
                long sum = 0;
                for (int k = 0; k < 9; k++) {
                    sum += entries[i][k] * production[k][j];
                }
                check.same("row " + i + ", column " + j, sum % Check.P, entries[i + 1][j]);
            }
        }
    }

    @Sentence(of = "Promise 19", says = "PRODUCTION in a row, a column. NoSuchElementException: no such ones")
    static void productionOfNoRowOrColumn(Check check) {
        for (int size = 2; size <= 10; size++) {
            SeriesTables x = Check.told("size " + size + ";");
            for (int place : new int[] {-1, size - 1, size, 9, 10, LEAST, MOST}) {
                check.same("row " + place, Check.production(x, 0, place, 0), Check.THROWN);
                check.same("column " + place, Check.production(x, 0, 0, place), Check.THROWN);
                check.same("both " + place, Check.production(x, 0, place, place), Check.THROWN);
            }
            check.same("the last row and column", Check.production(x, 0, size - 2, size - 2), 0);
        }
    }

    @Sentence(of = "Promise 19", says = "NoSuchElementException: no such ones")
    static void productionOfNoTable(Check check) {
        SeriesTables x = Check.told(PASCAL);
        for (int table : NO_TABLE) {
            check.same("table " + table, Check.production(x, table, 0, 0), Check.THROWN);
        }
        check.same("table 3", Check.production(x, 3, 0, 1), 1);
        check.same("without SIZE", Check.production(new SeriesTables(), 0, 0, 0), Check.THROWN);
    }
}
