/** Promises 1 to 6: a new object, the tape, texts and their faults. */
public final class TextTest {
    private static final Check check = new Check();

    public static void main(String[] args) {
        newObject();
        tape();
        texts();
        faultsOfTokens();
        faultsOfNumbers();
        faultsOfPlaces();
        longTexts();
        whatStays();
        check.finish();
    }

    private static void newObject() {
        SeriesTables x = new SeriesTables();
        for (int what = 0; what <= 4; what++) {
            check.same("P1 now", x.now(what), 0);
        }
        check.same("P6 now(5)", x.now(5), -1);
        check.same("P6 now(-1)", x.now(-1), -1);
        check.same("P5 fault ahead of any text", x.fault(), 0);
        check.same("P1 at", x.at(0, 0), -1);
        check.same("P1 entry", Check.entry(x, 0, 0, 0), Check.THROWN);
        check.same("P4 an empty tape is a text", x.text(), 0);
    }

    private static void tape() {
        SeriesTables x = new SeriesTables();
        for (int k = 1; k <= 26; k++) {
            check.same("P2 feed", x.feed(0, -1, 7, 1 << 31, 5), 20 * k);
        }
        check.same("P3 end within", x.end(520), true);
        check.same("P2 up to 540", x.feed(1, 2, 3, 4, 5), 540);
        check.same("P2 beyond 540", x.feed(1, 2, 3, 4, 5), -1);
        check.same("P2 none came", x.now(4), 540);
        check.same("P3 as many as there are", x.end(540), true);
        check.same("P3 more than there are", x.end(541), false);
        check.same("P3 below 0", x.end(-1), false);
        check.same("P3 the tape stays", x.now(4), 540);
        check.same("P3 521", x.end(521), true);
        check.same("P2 521 and 20", x.feed(1, 2, 3, 4, 5), -1);
        check.same("P6 bytes of the tape", x.now(4), 521);
        // The highest byte first: s, i, z, e ..
        SeriesTables y = new SeriesTables();
        y.feed(0x73697a65, 0x0a332020, 0x3b202020, 0x20202020, 0x20202020);
        check.same("P2 the order of bytes", y.text(), 1);
        check.same("P2 SIZE", y.now(0), 3);
        check.same("P4 the tape is empty then", y.now(4), 0);
    }

    private static void texts() {
        check.lines("", 0);
        check.lines("  \n ", 0);
        check.lines("size 2;", 1);
        check.lines("size 10;", 1);
        check.lines("size 010;", 1);
        check.lines("\nsize\n2\n;\n", 1);
        check.lines("size 2;series 1;series-0 -1;", 3);
        check.lines("size 3;series 1;series 0 1;table 0 1;series 1 2 3 over 1 2 3;table 2 1;", 6);
        check.lines("size 2;series 1;series 0 1;table 000 001;table 0 1;table 0 1;table 0 1;"
            + "series 1;series 1;series 1;series 1;", 11);

        SeriesTables y = Check.told("size 10;series 1 over 1 -1 1 1 1 1 1 1 1 1;series 1 2 3 4 5 6 7 8 9 10 over 1;");
        check.row("P4 a shorter divisor behind a longer one", y, 1, 1, 2, 3, 4, 5, 6, 7, 8, 9, 10);
        SeriesTables x = Check.told("size 5;series 1 over 1-1-1;series-999 0 - 3;series 0 1 2 over -2 1;table 0 2;");
        check.same("P6 SERIES", x.now(1), 3);
        check.same("P6 TABLES", x.now(2), 1);
        check.row("P4 over", x, 0, 1, 1, 2, 3, 5);
        check.row("P4 minus", x, 1, -999, 0, -3, 0, 0);
        long half = Check.quotient(1, 2);
        check.same("P4 over -2 1", x.at(2, 1), Check.P - half);
        check.same("P4 untold series", x.at(3, 0), 0);
        check.same("P4 table g", Check.entry(x, 0, 4, 0), 5);
        check.same("P4 table g f", Check.entry(x, 0, 1, 1), Check.P - half);
        check.same("P4 untold table", Check.entry(x, 1, 1, 1), 1);
        check.same("P4 untold table", Check.entry(x, 1, 1, 0), 0);
    }

    private static void faultsOfTokens() {
        check.fault("series 1;", 0, 1);
        check.fault(";", 0, 1);
        check.fault("size", 4, 1);
        check.fault("size 3", 6, 1);
        check.fault("size 3  ", 8, 1);
        check.fault("size3;", 0, 1);
        check.fault("Size 3;", 0, 1);
        check.fault("size 3;size 3;", 7, 1);
        check.fault("size 3 3;", 7, 1);
        check.fault("size -3;", 5, 1);
        check.fault("size 3;;", 7, 1);
        check.fault("size 3;over", 7, 1);
        check.fault("size 3;3", 7, 1);
        check.fault("size 3;serie 1;", 7, 1);
        check.fault("size 3;seriess 1;", 7, 1);
        check.fault("size 3;series1;", 7, 1);
        check.fault("size 3;series;", 13, 1);
        check.fault("size 3;series", 13, 1);
        check.fault("size 3;series -", 15, 1);
        check.fault("size 3;series 1 over", 20, 1);
        check.fault("size 3;table", 12, 1);
        check.fault("size 3;series -;", 15, 1);
        check.fault("size 3;series --1;", 15, 1);
        check.fault("size 3;series 1 -;", 17, 1);
        check.fault("size 3;series over 1;", 14, 1);
        check.fault("size 3;series 1 over;", 20, 1);
        check.fault("size 3;series 1 over 1 over 1;", 23, 1);
        check.fault("size 3;series 1over 1;", 14, 1);
        check.fault("size 3;series 1 2 3 4;", 20, 1);
        check.fault("size 3;series 1 2 3 -4;", 20, 1);
        check.fault("size 3;series 1 over 1 2 3 4;", 27, 1);
        check.fault("size 3;series 1 over 1 2 3 - 4;", 27, 1);
        check.fault("size 3;series 1 1234;", 16, 1);
        check.fault("size 3;series 1 12a;", 16, 1);
        check.fault("size 3;series 1,", 15, 1);
        check.fault("size 3;series 1\t;", 15, 1);
        check.fault("size 3;series 1" + (char) 233 + ";", 15, 1);
        check.fault("size 3;series 1" + (char) 0, 15, 1);
        check.fault("size 3;series 1 series 1;", 16, 1);
        check.fault("size 3;series 1;table;", 21, 1);
        check.fault("size 3;series 1;series 0 1;table 0;", 34, 1);
        check.fault("size 3;series 1;series 0 1;table 0 1 1;", 37, 1);
        check.fault("size 3;series 1;series 0 1;table -0 1;", 33, 1);
        check.fault("size 3;series 1;series 0 1;table 0 1", 36, 1);
    }

    private static void faultsOfNumbers() {
        check.fault("size 1;", 5, 2);
        check.fault("size 0;", 5, 2);
        check.fault("size 11;", 5, 2);
        check.fault("size 999 x", 5, 2);
        check.fault("size 1000;", 5, 1);
        check.fault("size 3;series 1 over 0 1;", 21, 2);
        check.fault("size 3;series 1 over 000;", 21, 2);
        check.fault("size 3;series 1 over -0 1;", 22, 2);
        check.fault("size 3;table 0 0;", 13, 2);
        check.fault("size 3;series 1;table 1 0;", 22, 2);
        check.fault("size 3;series 1;table 0 1;series 0 1;", 24, 2);
        check.fault("size 3;series 0 1;table 0 9;", 26, 2);
        check.lines("size 3;series 0 over 1 0;", 2);
    }

    private static void faultsOfPlaces() {
        String six = "size 2;series 1;series 0 1;series 1;series 1;series 1;series 1;";
        check.lines(six, 7);
        check.fault(six + "series 1;", six.length(), 3);
        check.fault(six + "seriess", six.length(), 1);
        check.fault(six + "series", six.length(), 3);
        String four = six + "table 0 1;table 0 1;table 0 1;table 0 1;";
        check.lines(four, 11);
        check.fault(four + " table 9 9;", four.length() + 1, 3);
        check.fault("size 2;series 1;series 0 1;table 0 0;", 35, 4);
        check.fault("size 2;series 1;series 0 1;table 1 1;", 35, 4);
        check.fault("size 2;series 1;series 0 1;table 1 0;", 35, 4);
        check.fault("size 2;series 1;series 0;table 0 1;", 33, 4);
        check.fault("size 2;series 1;series 1 1;table 0 1 ,", 35, 4);
        check.fault("size 3;series 1;series 0 0 1;table 0 1", 37, 4);
    }

    private static void longTexts() {
        check.lines(Check.filled("size 2;", 500), 1);
        check.lines(Check.filled("", 500), 0);
        check.fault(Check.filled("size 2;", 501), 500, 1);
        check.fault(Check.filled("", 540), 500, 1);
        check.fault(Check.filled("size 2", 540), 500, 1);
        check.fault(Check.filled("size 2", 500), 500, 1);
        check.fault(Check.filled("size 2;", 498) + "series 1;", 500, 1);
        check.fault(Check.filled("size 2;", 498) + "seriess 1;", 498, 1);
        check.fault(Check.filled("size 2;", 498) + "over", 498, 1);
        check.fault(Check.filled("size 2;", 499) + "series", 500, 1);
        check.fault(Check.filled("size 2;", 500) + ",", 500, 1);
        check.fault(Check.filled("size 2;", 499) + ",,", 499, 1);
        check.fault(Check.filled("size", 499) + "11;", 499, 2);
        check.fault(Check.filled("size", 499) + "10;", 500, 1);
        check.fault(Check.filled("size", 500) + "11;", 500, 1);
        check.fault(Check.filled("size", 499) + "1000;", 499, 1);
        check.fault(Check.filled("size 1", 540), 5, 2);
    }

    private static void whatStays() {
        SeriesTables x = Check.told("size 3;series 1 2 3;series 0 1 1;table 0 1;");
        x.put(2, 0, 5);
        x.set(1, 1, 6);
        check.same("P4 a fault", Check.text(x, "size 4;series 7;table 0 0;"), -25);
        check.same("P5 its kind", x.fault(), 4);
        check.same("P4 the tape is empty even so", x.now(4), 0);
        check.same("P4 SIZE stays", x.now(0), 3);
        check.same("P6 SERIES stay", x.now(1), 2);
        check.same("P6 TABLES stay", x.now(2), 1);
        check.same("P4 acts stay", x.now(3), 2);
        check.same("P4 series stay", x.at(0, 0), 1);
        check.same("P4 series stay", x.at(2, 0), 5);
        check.same("P4 the free table stays", x.free(1, 1), 6);
        check.same("P5 fault() is of the latest text", x.fault(), 4);
        check.same("P4 a new text", Check.text(x, "size 4;series 9;"), 2);
        check.same("P5 no fault", x.fault(), 0);
        check.same("P6 SIZE", x.now(0), 4);
        check.same("P6 SERIES", x.now(1), 1);
        check.same("P6 TABLES", x.now(2), 0);
        check.same("P6 nothing can be undone", x.now(3), 0);
        check.same("P29 nothing can be undone", x.undo(), -1);
        check.row("P4 told", x, 0, 9, 0, 0, 0);
        check.row("P4 as at first", x, 1, 0, 0, 0, 0);
        check.row("P4 as at first", x, 2, 0, 0, 0, 0);
        check.same("P4 tables as at first", x.kinds(0), 63);
        check.same("P4 the free table as at first", x.free(1, 1), 0);
        x.put(0, 0, 1);
        check.same("P4 an empty text", x.text(), 0);
        check.same("P4 SIZE 0", x.now(0), 0);
        check.same("P6 SERIES", x.now(1), 0);
        check.same("P6 acts", x.now(3), 0);
        check.same("P4 no coefficients", x.at(0, 0), -1);
    }
}
