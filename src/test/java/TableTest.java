/** Promises 12 to 22: tables, what comes of them and what is told of them. */
public final class TableTest {
    private static final Check check = new Check();
    private static final String PASCAL = "size 6;series 1 over 1 -1;series 0 1 over 1 -1;table 0 1;";

    public static void main(String[] args) {
        pairs();
        products();
        powers();
        parts();
        applied();
        sums();
        productions();
        kinds();
        differences();
        failures();
        wrongInputs();
        check.finish();
    }

    private static void pairs() {
        SeriesTables x = Check.told("size 4;series 2 1;series 0 3 1;series 0 0 1;");
        check.same("P12 pair", x.pair(0, 1, 3), 1);
        int[][] due = {{2, 0, 0, 0}, {1, 6, 0, 0}, {0, 5, 18, 0}, {0, 1, 21, 54}};
        for (int i = 0; i < 4; i++) {
            for (int j = 0; j < 4; j++) {
                check.same("P13 entry " + i + " " + j, Check.entry(x, 3, i, j), due[i][j]);
            }
        }
        check.same("P12 g begins with 0", x.pair(1, 1, 0), -1);
        check.same("P12 f does not", x.pair(0, 0, 0), -1);
        check.same("P12 f has no t", x.pair(0, 2, 0), -1);
        x.put(0, 0, 9);
        check.same("P12 the table stays", Check.entry(x, 3, 0, 0), 2);
        check.same("P13 as at first", Check.entry(x, 0, 3, 3), 1);
        check.same("P13 no such table", Check.entry(x, 4, 0, 0), Check.THROWN);
        check.same("P13 no such table", Check.entry(x, -1, 0, 0), Check.THROWN);
        check.same("P13 no such row", Check.entry(x, 0, 4, 0), Check.THROWN);
        check.same("P13 no such row", Check.entry(x, 0, -1, 0), Check.THROWN);
        check.same("P13 no such column", Check.entry(x, 0, 0, 4), Check.THROWN);
        check.same("P13 no such column", Check.entry(x, 0, 0, -1), Check.THROWN);
        check.same("P13 no SIZE", Check.entry(new SeriesTables(), 0, 0, 0), Check.THROWN);
    }

    private static void products() {
        SeriesTables x = Check.told("size 4;series 2 1;series 0 3 1;series 1 1 1 1;series 0 1 0 2;table 0 1;table 2 3;");
        int last = x.times(0, 1, 2);
        check.same("P14 as pair()", last, Check.entry(x, 2, 3, 1));
        sameAsMatrices(x, 0, 1, 2);
        x.times(1, 0, 2);
        sameAsMatrices(x, 1, 0, 2);
        x.times(0, 0, 3);
        check.same("P14 to its own place", x.times(0, 0, 0), Check.entry(x, 3, 3, 1));
        check.same("P14 to its own place", x.differ(0, 3, 0), -1);
        SeriesTables pascal = Check.told(PASCAL);
        check.same("P14 Pascal's twice", pascal.times(0, 0, 1), 5 * 16);
    }

    private static void sameAsMatrices(SeriesTables x, int s, int t, int product) {
        for (int i = 0; i < 4; i++) {
            for (int j = 0; j < 4; j++) {
                long sum = 0;
                for (int k = 0; k < 4; k++) {
                    sum += (long) Check.entry(x, s, i, k) * Check.entry(x, t, k, j);
                }
                check.same("P14 entry " + i + " " + j, Check.entry(x, product, i, j), sum % Check.P);
            }
        }
    }

    private static void powers() {
        SeriesTables x = Check.told(PASCAL);
        check.same("P15 0", x.power(0, 0, 1), 0);
        check.same("P15 0 is ONE", x.kinds(1), 63);
        check.same("P15 1", x.power(0, 1, 1), 5);
        check.same("P15 9", x.power(0, 9, 1), 5 * 6561);
        check.same("P15 -9", x.power(0, -9, 2), 5 * 6561);
        check.same("P15 -9", Check.entry(x, 2, 4, 1), Check.P - 4 * 729);
        check.same("P15 9 and -9", x.times(1, 2, 3), 0);
        check.same("P15 9 and -9", x.kinds(3), 63);
        check.same("P15 in place", x.power(0, -1, 0), 5);
        check.same("P15 in place", Check.entry(x, 0, 1, 0), Check.P - 1);
        check.same("P15 10", x.power(0, 10, 0), -1);
        check.same("P15 -10", x.power(0, -10, 0), -1);
        SeriesTables y = Check.told("size 5;series 3 1 4 1 5;series 0 2 7 1 8;table 0 1;");
        y.power(0, -1, 1);
        check.same("P15 the inverse", y.times(0, 1, 2), 0);
        check.same("P15 the inverse", y.kinds(2), 63);
        y.times(1, 0, 2);
        check.same("P15 the inverse from the left", y.kinds(2), 63);
    }

    private static void parts() {
        SeriesTables x = Check.told("size 6;series 1 1 2 5 14 42;series 0 1 1 2 5 14;table 0 1;");
        check.same("P16 g", x.part(0, 0, 5), 1);
        check.row("P16 g", x, 5, 1, 1, 2, 5, 14, 42);
        check.same("P16 f", x.part(0, 1, 5), 0);
        check.row("P16 f", x, 5, 0, 1, 1, 2, 5, 14);
        check.same("P16 A of Catalan's", x.part(0, 2, 5), 1);
        check.row("P16 A of Catalan's", x, 5, 1, 1, 1, 1, 1, 0);
        check.same("P16 Z of Catalan's", x.part(0, 3, 5), 1);
        check.row("P16 Z of Catalan's", x, 5, 1, 1, 1, 1, 1, 0);
        SeriesTables y = Check.told("size 3;series 2 6;series 0 5;table 0 1;");
        check.same("P16 Z", y.part(0, 3, 5), 3);
        // 1 less 1 by (1 + 3t) is 3t - 9tt; t is f by 5.
        check.row("P16 Z", y, 5, 3, Check.P - Check.quotient(9, 5), 0);
        check.same("P16 A", y.part(0, 2, 5), 5);
        check.row("P16 A", y, 5, 5, 0, 0);
        SeriesTables ten = Check.told("size 10;series 1 over 1 -1;series 0 1 over 1 -1;table 0 1;");
        ten.part(0, 2, 5);
        check.row("P16 A of Pascal's at size 10", ten, 5, 1, 1, 0, 0, 0, 0, 0, 0, 0, 0);
        ten.part(0, 3, 5);
        check.row("P16 Z of Pascal's at size 10", ten, 5, 1, 0, 0, 0, 0, 0, 0, 0, 0, 0);
    }

    private static void applied() {
        SeriesTables x = Check.told(PASCAL);
        x.put(2, 0, 1);
        x.put(2, 1, 2);
        check.same("P17 apply", x.apply(0, 2, 3), 11);
        check.row("P17 apply", x, 3, 1, 3, 5, 7, 9, 11);
        check.same("P17 in place", x.apply(0, 2, 2), 11);
        check.row("P17 in place", x, 2, 1, 3, 5, 7, 9, 11);
    }

    private static void sums() {
        SeriesTables x = Check.told(PASCAL);
        check.same("P18 rows", x.sums(0, 0, 5), 32);
        check.row("P18 rows", x, 5, 1, 2, 4, 8, 16, 32);
        check.same("P18 signs", x.sums(0, 1, 5), 0);
        check.row("P18 signs", x, 5, 1, 0, 0, 0, 0, 0);
        check.same("P18 by k", x.sums(0, 2, 5), 80);
        check.row("P18 by k", x, 5, 0, 1, 4, 12, 32, 80);
        check.same("P18 aslant", x.sums(0, 3, 5), 8);
        check.row("P18 aslant", x, 5, 1, 1, 2, 3, 5, 8);
        check.same("P18 signs of ONE", x.sums(1, 1, 5), Check.P - 1);
        check.row("P18 signs of ONE", x, 5, 1, -1, 1, -1, 1, -1);
    }

    private static void productions() {
        SeriesTables x = Check.told("size 5;series 1 1 2 5 14;series 0 1 1 2 5;table 0 1;series 2 6 1;series 0 5 2 3;table 2 3;");
        for (int i = 0; i < 4; i++) {
            for (int j = 0; j < 4; j++) {
                check.same("P19 Catalan's " + i + " " + j, Check.production(x, 0, i, j), j <= i + 1 ? 1 : 0);
                long sum = 0;
                for (int k = 0; k < 4; k++) {
                    sum += (long) Check.entry(x, 1, i, k) * Check.production(x, 1, k, j);
                }
                check.same("P19 times it " + i + " " + j, sum % Check.P, Check.entry(x, 1, i + 1, j));
            }
        }
        SeriesTables two = Check.told("size 2;series 2 6;series 0 1;table 0 1;");
        check.same("P19 at size 2", Check.production(two, 0, 0, 0), 3);
        check.same("P19 no row 1 there", Check.production(two, 0, 1, 0), Check.THROWN);
        check.same("P19 no column 1 there", Check.production(two, 0, 0, 1), Check.THROWN);
        check.same("P19 no such row", Check.production(x, 0, 4, 0), Check.THROWN);
        check.same("P19 no such row", Check.production(x, 0, -1, 0), Check.THROWN);
        check.same("P19 no such column", Check.production(x, 0, 0, 4), Check.THROWN);
        check.same("P19 no such column", Check.production(x, 0, 0, -1), Check.THROWN);
        check.same("P19 no such table", Check.production(x, 4, 0, 0), Check.THROWN);
        check.same("P19 no such table", Check.production(x, -1, 0, 0), Check.THROWN);
        check.same("P19 no SIZE", Check.production(new SeriesTables(), 0, 0, 0), Check.THROWN);
    }

    private static void kinds() {
        check.same("P20 ONE", Check.told("size 2;").kinds(0), 63);
        check.same("P20 f is t", kindsOf("1 2", "0 1"), 1);
        check.same("P20 g is 1", kindsOf("1", "0 1 1"), 2);
        check.same("P20 f is t g", kindsOf("1 2 3 4", "0 1 2 3"), 4);
        check.same("P20 f is t g, but for its last one", kindsOf("1 2 3 4", "0 1 2 4"), 0);
        check.same("P20 g is of f", kindsOf("1 4 9 5", "0 1 2 3"), 8);
        check.same("P20 but for one", kindsOf("1 4 8 5", "0 1 2 3"), 0);
        check.same("P20 chequered", kindsOf("1 0 2", "0 2 0 1"), 16);
        check.same("P20 g with an odd one", kindsOf("1 0 2 1", "0 2 0 1"), 0);
        check.same("P20 f with an even one", kindsOf("1 0 2", "0 2 1 1"), 0);
        check.same("P20 its own inverse", kindsOf("1 over 1 -1", "0 -1 over 1 -1"), 32);
        check.same("P20 minus ONE", kindsOf("-1", "0 1"), 1 + 16 + 32);
        check.same("P20 minus t", kindsOf("-1", "0 -1"), 4 + 8 + 16 + 32);
        check.same("P20 f is its own, g not", kindsOf("2", "0 -1 over 1 -1"), 0);
        check.same("P20 g is its own, f not", kindsOf("-1", "0 2"), 16);
    }

    private static int kindsOf(String g, String f) {
        return Check.told("size 4;series " + g + ";series " + f + ";table 0 1;").kinds(0);
    }

    private static void differences() {
        SeriesTables x = Check.told("size 4;series 1 1;series 0 1 0 2;series 1 1 0 1;series 0 1 0 1;"
            + "table 0 1;table 0 3;table 2 3;");
        check.same("P21 the same", x.differ(0, 0, 0), -1);
        check.same("P21 f's last one", x.differ(0, 1, 0), 31);
        check.same("P21 g's last one", x.differ(1, 2, 0), 30);
        check.same("P21 row by row", x.differ(0, 2, 0), 30);
        check.same("P21 g's second one", x.differ(2, 3, 0), 10);
        check.same("P21 with itself", x.differ(2, 2, 1), -1);
        check.same("P21 with ONE", x.differ(2, 3, 1), -1);
        SeriesTables z = Check.told("size 3;series 1 4;series 0 1;series 0 2;series 0 1 1;table 0 1;table 0 2;"
            + "series 5 4;table 4 1;");
        check.same("P21 on the diagonal", z.differ(0, 1, 0), 11);
        check.same("P21 at the very first", z.differ(0, 2, 0), 0);
        check.same("P21 no such how", x.differ(0, 2, 2), -1);
        check.same("P21 no such how", x.differ(0, 2, -1), -1);
        check.same("P21 no such table", x.differ(4, 2, 0), -1);
        check.same("P21 no such table", x.differ(0, -1, 0), -1);
        // (1, t + tt) and (1, 2t): 2t + 2tt against 2t + 4tt.
        SeriesTables y = Check.told("size 4;series 1;series 0 1 1;series 0 2;table 0 1;table 0 2;");
        check.same("P21 can't change places", y.differ(0, 1, 1), 21);
        check.same("P21 can't change places", y.differ(1, 0, 1), 21);
        check.same("P21 no act", y.now(3), 0);
        check.same("P21 no SIZE", new SeriesTables().differ(0, 1, 1), -1);
    }

    private static void failures() {
        SeriesTables x = Check.told("size 4;series 1 over 1 -1;series 0 1 over 1 -1;series 1 2 4 8;series 1 2 4 9;"
            + "series 0 2 4 8;table 0 1;");
        check.same("P22 holds", x.fails(0, 0, 2), -1);
        check.same("P22 fails at the last one", x.fails(0, 0, 3), 3);
        check.same("P22 fails at the first one", x.fails(0, 0, 4), 0);
        check.same("P22 no such table", x.fails(4, 0, 4), -1);
        check.same("P22 no such series", x.fails(0, 6, 4), -1);
        check.same("P22 no such series", x.fails(0, 0, -1), -1);
        check.same("P22 no SIZE", new SeriesTables().fails(0, 0, 0), -1);
    }

    private static void wrongInputs() {
        SeriesTables x = Check.told(PASCAL);
        for (int bad = -1; bad <= 6; bad += 7) {
            int badTable = bad == 6 ? 4 : bad;
            check.same("P12", x.pair(bad, 1, 0), -1);
            check.same("P12", x.pair(0, bad, 0), -1);
            check.same("P12", x.pair(0, 1, badTable), -1);
            check.same("P14", x.times(badTable, 0, 0), -1);
            check.same("P14", x.times(0, badTable, 0), -1);
            check.same("P14", x.times(0, 0, badTable), -1);
            check.same("P15", x.power(badTable, 1, 0), -1);
            check.same("P15", x.power(0, 1, badTable), -1);
            check.same("P16", x.part(badTable, 0, 0), -1);
            check.same("P16", x.part(0, badTable, 0), -1);
            check.same("P16", x.part(0, 0, bad), -1);
            check.same("P17", x.apply(badTable, 0, 0), -1);
            check.same("P17", x.apply(0, bad, 0), -1);
            check.same("P17", x.apply(0, 0, bad), -1);
            check.same("P18", x.sums(badTable, 0, 0), -1);
            check.same("P18", x.sums(0, badTable, 0), -1);
            check.same("P18", x.sums(0, 0, bad), -1);
            check.same("P20", x.kinds(badTable), -1);
        }
        check.same("no act came of them", x.now(3), 0);
        SeriesTables none = new SeriesTables();
        check.same("P12 no SIZE", none.pair(0, 0, 0), -1);
        check.same("P14 no SIZE", none.times(0, 0, 0), -1);
        check.same("P15 no SIZE", none.power(0, 0, 0), -1);
        check.same("P16 no SIZE", none.part(0, 0, 0), -1);
        check.same("P17 no SIZE", none.apply(0, 0, 0), -1);
        check.same("P18 no SIZE", none.sums(0, 0, 0), -1);
        check.same("P20 no SIZE", none.kinds(0), -1);
    }
}
