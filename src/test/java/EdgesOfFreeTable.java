/** THE FREE TABLE at the limits that the document names. */
final class EdgesOfFreeTable {
    private static final int LEAST = Integer.MIN_VALUE;
    private static final int MOST = Integer.MAX_VALUE;
    private static final int[] NO_TABLE = {-1, 4, 5, LEAST, MOST};

    private EdgesOfFreeTable() {
    }

    @Sentence(of = "Terms", says = "THE FREE TABLE: numbers in rows i, columns j, j no more than i (at first 0)")
    static void freeTableIsAtFirstZero(Check check) {
        for (int size = 2; size <= 10; size += 4) {
            SeriesTables x = Check.told("size " + size + ";");
            for (int i = 0; i < size; i++) {
                for (int j = 0; j < size; j++) {
                    check.same("free", x.free(i, j), 0);
                }
            }
        }
    }

    @Sentence(of = "Promise 23", says = "a number in a row, a column (0 above the diagonal)")
    static void freeAboveTheDiagonal(Check check) {
        SeriesTables x = Check.told("size 10;series 1 over 1-1;series 0 1 over 1-1;table 0 1;");
        x.lay(0);
        for (int i = 0; i < 10; i++) {
            check.same("on the diagonal", x.free(i, i), 1);
            for (int j = i + 1; j < 10; j++) {
                check.same("above it", x.free(i, j), 0);
                check.same("none can be set there", x.set(i, j, 7), -1);
                check.same("still above it", x.free(i, j), 0);
            }
        }
    }

    @Sentence(of = "Promise 23", says = "(0 above the diagonal); NONE: no such ones")
    static void freeWhereThereIsNone(Check check) {
        for (int size = 2; size <= 10; size++) {
            SeriesTables x = Check.told("size " + size + ";");
            for (int place : new int[] {-1, size, 10, LEAST, MOST}) {
                check.same("row " + place, x.free(place, 0), -1);
                check.same("column " + place, x.free(size - 1, place), -1);
                check.same("column " + place + ", row 0", x.free(0, place), -1);
                check.same("both " + place, x.free(place, place), -1);
            }
            check.same("the last one", x.free(size - 1, size - 1), 0);
        }
        check.same("without SIZE", new SeriesTables().free(0, 0), -1);
    }

    @Sentence(of = "Promise 24", says = "It becomes v modulo 1,000,003: that")
    static void setWrapsAround(Check check) {
        SeriesTables x = Check.told("size 2;");
        int[] set = {0, 1000002, 1000003, 1000004, -1, -1000002, -1000003, -1000004, MOST, LEAST};
        int[] due = {0, 1000002, 0, 1, 1000002, 1, 0, 1000002, 477206, 522796};
        for (int k = 0; k < set.length; k++) {
            check.same("set " + set[k], x.set(1, 1, set[k]), due[k]);
            check.same("free, behind set " + set[k], x.free(1, 1), due[k]);
        }
    }

    @Sentence(of = "Promise 24", says = "NONE: no such ones, above the diagonal")
    static void setWhereThereIsNone(Check check) {
        for (int size = 2; size <= 10; size += 4) {
            SeriesTables x = Check.told("size " + size + ";");
            for (int place : new int[] {-1, size, 10, LEAST, MOST}) {
                check.same("row " + place, x.set(place, 0, 1), -1);
                check.same("column " + place, x.set(size - 1, place, 1), -1);
                check.same("both " + place, x.set(place, place, 1), -1);
            }
            check.same("above the diagonal", x.set(0, 1, 1), -1);
            check.same("above the diagonal", x.set(size - 2, size - 1, 1), -1);
            check.same("no act", x.now(3), 0);
            check.same("the first one", x.set(0, 0, 1), 1);
            check.same("the last one", x.set(size - 1, size - 1, 1), 1);
            check.same("the last row", x.set(size - 1, 0, 1), 1);
        }
        check.same("without SIZE", new SeriesTables().set(0, 0, 1), -1);
    }

    @Sentence(of = "Promise 25", says = "THE FREE TABLE is as a TABLE: its KINDS")
    static void layAtSizeTwoAndTen(Check check) {
        SeriesTables two = Check.told("size 2;series 1 5;series 0-1;table 0 1;");
        check.same("its KINDS", two.lay(0), 32);
        check.same("row 0", two.free(0, 0), 1);
        check.same("row 1", two.free(1, 0), 5);
        check.same("row 1", two.free(1, 1), 1000002);
        check.same("no KINDS are 0, not NONE", Check.told("size 2;series 2 1;series 0 3;table 0 1;").lay(0), 0);
        SeriesTables ten = Check.told("size 10;series 1 over 1-1;series 0 1 over 1-1;table 0 1;");
        check.same("its KINDS", ten.lay(0), 4);
        check.same("row 9", ten.free(9, 4), 126);
        check.same("ONE has all KINDS", ten.lay(3), 63);
        check.same("what was laid ahead is gone", ten.free(9, 4), 0);
    }

    @Sentence(of = "Promise 25", says = "its KINDS; NONE: no such TABLE, no SIZE")
    static void layOfNoTable(Check check) {
        SeriesTables x = Check.told("size 3;");
        x.set(0, 0, 9);
        for (int table : NO_TABLE) {
            check.same("table " + table, x.lay(table), -1);
        }
        check.same("it stays", x.free(0, 0), 9);
        check.same("no act", x.now(3), 1);
        check.same("no SIZE", new SeriesTables().lay(0), -1);
    }

    @Sentence(of = "Promise 26", says = "THE FREE TABLE is not RECOGNISED: the first place (as differ()) at which it is unlike "
        + "the TABLE of its columns 0 and 1")
    static void firstAndLastPlaceUnlike(Check check) {
        SeriesTables ten = Check.told("size 10;series 1 over 1-1;series 0 1 over 1-1;table 0 1;");
        ten.lay(0);
        ten.set(9, 9, 2);
        check.same("the last place", ten.unlike(), 99);
        ten.set(9, 2, 2);
        check.same("ahead of it in its row", ten.unlike(), 92);
        ten.set(8, 8, 0);
        check.same("a row ahead", ten.unlike(), 88);
        ten.set(2, 2, 0);
        check.same("the first place that can be unlike", ten.unlike(), 22);
        SeriesTables three = Check.told("size 3;");
        three.set(0, 0, 1);
        three.set(1, 1, 1);
        check.same("0 in the last place", three.unlike(), 22);
    }

    @Sentence(of = "Terms", says = "It is RECOGNISED, if there is a TABLE of which it has all ENTRIES")
    static void oneNumberThatIsOtherwise(Check check) {
        SeriesTables x = Check.told("size 10;series 1 over 1-1;series 0 1 over 1-1;table 0 1;");
        x.lay(0);
        for (int i = 2; i < 10; i++) {
            for (int j = 2; j <= i; j++) {
                int was = x.free(i, j);
                x.set(i, j, was + 1);
                check.same("unlike at " + i + ", " + j, x.unlike(), 10 * i + j);
                check.same("not rebuilt", x.rebuild(1), -1);
                x.set(i, j, was);
            }
        }
        check.same("RECOGNISED again", x.unlike(), -1);
    }

    @Sentence(of = "Terms", says = "It is RECOGNISED, if there is a TABLE of which it has all ENTRIES")
    static void lastRowOfTheFirstTwoColumnsIsFree(Check check) {
        SeriesTables x = Check.told("size 10;series 1 over 1-1;series 0 1 over 1-1;table 0 1;");
        x.lay(0);
        x.set(9, 0, 55);
        check.same("coefficient 9 of g is in no other column", x.unlike(), -1);
        x.set(9, 1, 66);
        check.same("nor is that of f in one behind column 1", x.unlike(), -1);
        check.same("another TABLE comes of it", x.rebuild(1), 66);
        check.same("its g", Check.entry(x, 1, 9, 0), 55);
        x.set(8, 0, 55);
        check.same("of coefficient 8 of g that of f alone is another", x.unlike(), -1);
        x.set(7, 0, 55);
        check.same("of coefficient 7 one of column 2 is", x.unlike(), 92);
    }

    @Sentence(of = "Promise 26", says = "100: these make no TABLE")
    static void columnsThatMakeNoTable(Check check) {
        SeriesTables x = Check.told("size 3;");
        check.same("all 0", x.unlike(), 100);
        x.lay(0);
        x.set(0, 0, 0);
        check.same("column 0 begins with 0", x.unlike(), 100);
        x.set(0, 0, 1000003);
        check.same("or with 1,000,003", x.unlike(), 100);
        x.set(0, 0, 1);
        x.set(1, 1, 0);
        check.same("column 1 has 0 in row 1", x.unlike(), 100);
        x.set(2, 1, 5);
        check.same("and another number in row 2", x.unlike(), 100);
        x.set(1, 1, -1);
        check.same("they make one again", x.unlike() == 100, false);
        SeriesTables two = Check.told("size 2;");
        check.same("at SIZE 2", two.unlike(), 100);
        two.set(0, 0, 1);
        check.same("at SIZE 2", two.unlike(), 100);
        two.set(1, 1, 1);
        check.same("at SIZE 2", two.unlike(), -1);
    }

    @Sentence(of = "Promise 26", says = "NONE: it is RECOGNISED; 101: no SIZE")
    static void recognisedAndNoSize(Check check) {
        SeriesTables x = Check.told("size 3;series 2 1 7;series 0 3 1;table 0 1;");
        x.lay(0);
        check.same("recognised", x.unlike(), -1);
        x.lay(3);
        check.same("ONE", x.unlike(), -1);
        check.same("no act", x.now(3), 2);
        x.text();
        check.same("no SIZE", x.unlike(), 101);
        check.same("of a new object", new SeriesTables().unlike(), 101);
    }

    @Sentence(of = "Promise 27", says = "RECOGNISED: that TABLE comes to a place: as pair()")
    static void rebuiltAtSizeTwoAndTen(Check check) {
        SeriesTables two = Check.told("size 2;");
        two.set(0, 0, 2);
        two.set(1, 0, 6);
        two.set(1, 1, 10);
        check.same("at SIZE 2", two.rebuild(3), 10);
        check.same("its g", two.part(3, 0, 0), 2);
        check.row("its g", two, 0, 2, 6);
        two.part(3, 1, 0);
        check.row("its f", two, 0, 0, 5);
        SeriesTables ten = Check.told("size 10;series 1 over 1-1;series 0 1 over 1-1;table 0 1;");
        ten.lay(0);
        check.same("at SIZE 10", ten.rebuild(3), 9);
        check.same("it is that TABLE", ten.differ(0, 3, 0), -1);
    }

    @Sentence(of = "Promise 27", says = "NONE: it is not, no such place")
    static void rebuiltToNoPlaceOrOfNoTable(Check check) {
        SeriesTables x = Check.told("size 3;");
        check.same("no TABLE", x.rebuild(0), -1);
        x.lay(0);
        for (int table : NO_TABLE) {
            check.same("to " + table, x.rebuild(table), -1);
        }
        x.set(2, 2, 2);
        check.same("it is not RECOGNISED", x.rebuild(0), -1);
        check.same("no act", x.now(3), 2);
        x.set(2, 2, 1);
        check.same("it is again", x.rebuild(0), 0);
        check.same("an act", x.now(3), 4);
        check.same("no SIZE", new SeriesTables().rebuild(0), -1);
    }
}
