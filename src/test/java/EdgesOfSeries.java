/** Coefficients, and what comes of series at the limits that the document names. */
final class EdgesOfSeries {
    private static final int LEAST = Integer.MIN_VALUE;
    private static final int MOST = Integer.MAX_VALUE;
    private static final int[] NO_SERIES = {-1, 6, 7, LEAST, MOST};
    private static final String TEN = "size 10;series 1 2 3 4 5 6 7 8 9 10;series 0 1 -1;";

    private EdgesOfSeries() {
    }

    @Sentence(of = "Terms", says = "All numbers are from 0 to 1,000,002, reckoned modulo 1,000,003 (a prime number)")
    static void numbersWrapAround(Check check) {
        SeriesTables x = Check.told("size 2;series 1;");
        check.same("-1", x.put(1, 0, -1), 1000002);
        x.put(1, 1, 1000002);
        x.put(0, 1, 1);
        check.same("1,000,002 and 1", x.make(0, 1, 0, 2), 0);
        check.same("0 less 1", x.make(3, 0, 1, 2), 1000002);
        check.same("-1 by -1, twice", x.make(1, 1, 2, 2), 2);
        check.same("coefficient 0", x.at(2, 0), 1);
        x.put(1, 1, 0);
        check.same("1 by -1", x.turn(1, 5, 2), 0);
        check.same("1 by -1", x.at(2, 0), 1000002);
        check.same("a less itself", x.make(0, 0, 1, 2), 0);
        check.row("a less itself", x, 2, 0, 0);
        check.row("-0 of a text", Check.told("size 2;series -0 - 000;"), 0, 0, 0);
    }

    @Sentence(of = "Terms", says = "A SERIES has coefficients 0 to SIZE less 1; of what comes of series all beyond is left out")
    static void whatLiesBeyondIsLeftOut(Check check) {
        SeriesTables x = Check.told("size 2;series 0 1;series 1 1;");
        check.same("t by t", x.make(0, 0, 2, 2), 0);
        check.row("t by t", x, 2, 0, 0);
        check.same("t by t, by turn", x.turn(0, 0, 2), 0);
        check.row("t by t, by turn", x, 2, 0, 0);
        check.same("1 + t to the 99th", x.raise(1, 99, 2), 99);
        check.same("its coefficient 2", x.at(2, 2), -1);
        SeriesTables ten = Check.told("size 10;series 0 0 0 0 0 0 0 0 0 1;series 0 1;");
        check.same("t^9 by t^9", ten.make(0, 0, 2, 2), 0);
        check.same("t^9 by t", ten.make(0, 1, 2, 2), 0);
        check.same("t^9(t)", ten.make(0, 1, 4, 2), 1);
    }

    @Sentence(of = "Terms", says = "SERIES are in places 0 to 5 (at first 0)")
    static void seriesAreAtFirstZero(Check check) {
        SeriesTables x = Check.told("size 10;");
        for (int series = 0; series < 6; series++) {
            check.row("series " + series, x, series, 0, 0, 0, 0, 0, 0, 0, 0, 0, 0);
        }
        check.same("no place 6", x.at(6, 0), -1);
    }

    @Sentence(of = "Promise 7", says = "Coefficient i of a SERIES; NONE: no such ones")
    static void coefficientsThatThereAreNoneOf(Check check) {
        for (int size = 2; size <= 10; size++) {
            SeriesTables x = Check.told("size " + size + ";");
            for (int series : NO_SERIES) {
                check.same("at(" + series + ", 0)", x.at(series, 0), -1);
            }
            for (int i : new int[] {-1, size, 10, LEAST, MOST}) {
                check.same("at(0, " + i + ")", x.at(0, i), -1);
                check.same("at(5, " + i + ")", x.at(5, i), -1);
            }
            check.same("the first one", x.at(0, 0), 0);
            check.same("the last one", x.at(5, size - 1), 0);
        }
    }

    @Sentence(of = "Promise 8", says = "It becomes v modulo 1,000,003 (0 at least): that")
    static void putWrapsAround(Check check) {
        SeriesTables x = Check.told("size 2;");
        int[] put = {0, 1000002, 1000003, 1000004, -1, -1000002, -1000003, -1000004, MOST, LEAST};
        // 2,147,483,647 is 2147 times 1,000,003 and 477,206; -2,147,483,648 is -2148 times and 522,796.
        int[] due = {0, 1000002, 0, 1, 1000002, 1, 0, 1000002, 477206, 522796};
        for (int k = 0; k < put.length; k++) {
            check.same("put " + put[k], x.put(5, 1, put[k]), due[k]);
            check.same("at, behind put " + put[k], x.at(5, 1), due[k]);
        }
    }

    @Sentence(of = "Promise 8", says = "that; NONE: no such ones")
    static void putWhereThereIsNone(Check check) {
        for (int size = 2; size <= 10; size += 4) {
            SeriesTables x = Check.told("size " + size + ";");
            for (int series : NO_SERIES) {
                check.same("put(" + series + ", 0)", x.put(series, 0, 1), -1);
            }
            for (int i : new int[] {-1, size, LEAST, MOST}) {
                check.same("put(0, " + i + ")", x.put(0, i, 1), -1);
            }
            check.same("no act", x.now(3), 0);
            check.same("the last place", x.put(5, size - 1, 1), 1);
        }
    }

    @Sentence(of = "Promise 9", says = "3 a by b (coefficient 0 of b not 0)")
    static void divisionByASeriesThatBeginsWithZero(Check check) {
        SeriesTables x = Check.told("size 3;series 1 2 3;series 0 1 1;series 1;");
        check.same("by t + tt", x.make(0, 1, 3, 5), -1);
        check.same("by 0", x.make(0, 5, 3, 5), -1);
        check.same("t + tt by itself", x.make(1, 1, 3, 5), -1);
        check.same("by 1", x.make(0, 2, 3, 5), 3);
        x.put(2, 0, 1000003);
        check.same("by 1,000,003", x.make(0, 2, 3, 5), -1);
        x.put(2, 0, -1);
        check.same("by -1", x.make(0, 2, 3, 5), 1000000);
        check.same("by itself, in place", x.make(0, 0, 3, 0), 0);
        check.row("by itself, in place", x, 0, 1, 0, 0);
    }

    @Sentence(of = "Promise 9", says = "4 a(b) (coefficient 0 of b 0)")
    static void insertionOfASeriesThatDoesNotBeginWithZero(Check check) {
        SeriesTables x = Check.told("size 3;series 1 2 3;series 1 1;series 0 0 1;");
        check.same("of 1 + t", x.make(0, 1, 4, 5), -1);
        check.same("of itself", x.make(0, 0, 4, 0), -1);
        check.same("of tt", x.make(0, 2, 4, 5), 2);
        check.row("of tt", x, 5, 1, 0, 2);
        check.same("of 0", x.make(0, 4, 4, 5), 0);
        check.row("of 0", x, 5, 1, 0, 0);
        x.put(1, 0, 1000003);
        check.same("of t, whose coefficient 0 is 1,000,003", x.make(0, 1, 4, 5), 3);
        check.same("of tt in tt, in place", x.make(2, 2, 4, 2), 0);
        check.row("of tt in tt, in place", x, 2, 0, 0, 0);
    }

    @Sentence(of = "Terms", says = "INSERTED: a(b): for t in a stands b (coefficient 0 of b is 0)")
    static void insertedAtSizeTwoAndTen(Check check) {
        SeriesTables two = used("size 2;series 5 7;series 0 3;");
        check.same("3t at SIZE 2", two.make(0, 1, 4, 5), 21);
        check.row("3t at SIZE 2", two, 5, 5, 21);
        SeriesTables ten = used("size 10;series 1 2 3 4 5 6 7 8 9 10;series 0 1;series 0 0 0 0 0 0 0 0 0 1;series 0-1;");
        check.same("t", ten.make(0, 1, 4, 5), 10);
        check.row("t", ten, 5, 1, 2, 3, 4, 5, 6, 7, 8, 9, 10);
        check.same("t^9", ten.make(0, 2, 4, 5), 2);
        check.row("t^9", ten, 5, 1, 0, 0, 0, 0, 0, 0, 0, 0, 2);
        check.same("-t, in place", ten.make(0, 3, 4, 0), 1000003 - 10);
        check.row("-t, in place", ten, 0, 1, -2, 3, -4, 5, -6, 7, -8, 9, -10);
    }

    @Sentence(of = "Promise 9", says = "come to a place: the last coefficient")
    static void lastCoefficientIsTheAnswer(Check check) {
        SeriesTables two = Check.told("size 2;series 1 2;series 3 4;");
        check.same("at SIZE 2", two.make(0, 1, 0, 5), 6);
        check.row("at SIZE 2", two, 5, 4, 6);
        check.same("at SIZE 2", two.make(0, 1, 1, 5), 1000001);
        check.row("at SIZE 2", two, 5, -2, -2);
        SeriesTables ten = Check.told(TEN);
        check.same("at SIZE 10", ten.make(0, 0, 0, 5), 20);
        check.same("to the place of a itself", ten.make(0, 1, 1, 0), 10);
        check.row("to the place of a itself", ten, 0, 1, 1, 4, 4, 5, 6, 7, 8, 9, 10);
        check.same("to the place of b itself", ten.make(0, 1, 2, 1), 1);
        check.row("to the place of b itself", ten, 1, 0, 1, 0, 3, 0, 1, 1, 1, 1, 1);
    }

    @Sentence(of = "Promise 9", says = "NONE: no such ones, not as told, no SIZE")
    static void makeOfWhatThereIsNotAndOfNoHow(Check check) {
        SeriesTables x = Check.told("size 3;series 1 2 3;series 0 1;");
        for (int series : NO_SERIES) {
            for (int how = 0; how <= 4; how++) {
                check.same("a " + series, x.make(series, 1, how, 0), -1);
                check.same("b " + series, x.make(0, series, how, 0), -1);
                check.same("to " + series, x.make(0, how == 3 ? 0 : 1, how, series), -1);
            }
        }
        for (int how : new int[] {-1, 5, 6, LEAST, MOST}) {
            check.same("how " + how, x.make(0, 0, how, 0), -1);
        }
        check.same("no SIZE", new SeriesTables().make(0, 0, 0, 0), -1);
        check.same("no act", x.now(3), 0);
        check.row("all stays", x, 0, 1, 2, 3);
    }

    /** An act ahead that leaves no 0 in any row that is reckoned in: none of it may be seen later. */
    private static SeriesTables used(String text) {
        SeriesTables x = Check.told(text);
        x.make(0, 0, 0, 4);
        return x;
    }

    @Sentence(of = "Promise 10", says = "1 one place ahead (coefficient 0 goes, the last one is 0)")
    static void onePlaceAhead(Check check) {
        SeriesTables two = used("size 2;series 5 7;");
        check.same("at SIZE 2", two.turn(0, 1, 5), 0);
        check.row("at SIZE 2", two, 5, 7, 0);
        SeriesTables ten = used(TEN);
        check.same("at SIZE 10", ten.turn(0, 1, 0), 0);
        check.row("at SIZE 10", ten, 0, 2, 3, 4, 5, 6, 7, 8, 9, 10, 0);
    }

    @Sentence(of = "Promise 10", says = "2 each coefficient i multiplied by i and one place ahead (the last one is 0)")
    static void multipliedAndOnePlaceAhead(Check check) {
        SeriesTables two = used("size 2;series 5 7;");
        check.same("at SIZE 2", two.turn(0, 2, 5), 0);
        check.row("at SIZE 2", two, 5, 7, 0);
        SeriesTables ten = used(TEN);
        check.same("at SIZE 10", ten.turn(0, 2, 0), 0);
        check.row("at SIZE 10", ten, 0, 2, 6, 12, 20, 30, 42, 56, 72, 90, 0);
    }

    @Sentence(of = "Promise 10", says = "3 each coefficient i divided by i and 1 and one place behind")
    static void dividedAndOnePlaceBehind(Check check) {
        SeriesTables two = used("size 2;series 5 7;");
        check.same("at SIZE 2", two.turn(0, 3, 5), 5);
        check.row("at SIZE 2", two, 5, 0, 5);
        SeriesTables ten = used(TEN);
        check.same("at SIZE 10, the last one goes", ten.turn(0, 3, 0), 1);
        check.row("at SIZE 10", ten, 0, 0, 1, 1, 1, 1, 1, 1, 1, 1, 1);
    }

    @Sentence(of = "Promise 10", says = "SERIES a, how 0 multiplied by t")
    static void multipliedByT(Check check) {
        SeriesTables two = used("size 2;series 5 7;");
        check.same("at SIZE 2", two.turn(0, 0, 5), 5);
        check.row("at SIZE 2", two, 5, 0, 5);
        SeriesTables ten = used(TEN);
        check.same("at SIZE 10", ten.turn(0, 0, 0), 9);
        check.row("at SIZE 10", ten, 0, 0, 1, 2, 3, 4, 5, 6, 7, 8, 9);
    }

    @Sentence(of = "Terms", says = "REVERSE of a (coefficient 0 is 0, 1 is not): the series b for which a(b) is t")
    static void reverseOfWhatCanNotBeReversed(Check check) {
        SeriesTables x = Check.told("size 3;series 1 1;series 0 0 1;series 0 2 1;");
        check.same("1 + t", x.turn(0, 4, 5), -1);
        check.same("tt", x.turn(1, 4, 5), -1);
        check.same("0", x.turn(4, 4, 5), -1);
        check.same("2t + tt has one", x.turn(2, 4, 5) != -1, true);
        check.same("it is inserted", x.make(2, 5, 4, 5), 0);
        check.row("t comes of it", x, 5, 0, 1, 0);
        SeriesTables two = used("size 2;series 5 7;series 0 -1;series 0;");
        check.same("at SIZE 2", two.turn(1, 4, 5), 1000002);
        check.row("at SIZE 2", two, 5, 0, -1);
        check.same("0 at SIZE 2", two.turn(2, 4, 5), -1);
    }

    @Sentence(of = "Promise 10", says = "4 REVERSE, 5 1 by it (coefficient 0 not 0)")
    static void reverseAtSizeTen(Check check) {
        SeriesTables x = used(TEN);
        check.same("of t - tt: Catalan's numbers", x.turn(1, 4, 1), 1430);
        check.row("of t - tt", x, 1, 0, 1, 1, 2, 5, 14, 42, 132, 429, 1430);
        check.same("and back", x.turn(1, 4, 1), 0);
        check.row("and back", x, 1, 0, 1, -1, 0, 0, 0, 0, 0, 0, 0);
    }

    @Sentence(of = "Promise 10", says = "5 1 by it (coefficient 0 not 0)")
    static void oneByASeriesThatBeginsWithZero(Check check) {
        SeriesTables x = used("size 3;series 1 -1;series 0 1;");
        check.same("1 by t", x.turn(1, 5, 5), -1);
        check.same("1 by 0", x.turn(5, 5, 5), -1);
        check.same("1 by 1 less t", x.turn(0, 5, 5), 1);
        check.row("1 by 1 less t", x, 5, 1, 1, 1);
    }

    @Sentence(of = "Promise 10", says = "(coefficient 0 not 0): likewise")
    static void turnOfWhatThereIsNotAndOfNoHow(Check check) {
        SeriesTables x = Check.told("size 3;series 1 2 3;series 0 1;");
        for (int series : NO_SERIES) {
            for (int how = 0; how <= 5; how++) {
                check.same("a " + series, x.turn(series, how, 0), -1);
                check.same("to " + series, x.turn(how == 4 ? 1 : 0, how, series), -1);
            }
        }
        for (int how : new int[] {-1, 6, 7, LEAST, MOST}) {
            check.same("how " + how, x.turn(0, how, 0), -1);
        }
        check.same("no SIZE", new SeriesTables().turn(0, 0, 0), -1);
        check.same("no act", x.now(3), 0);
        check.row("all stays", x, 0, 1, 2, 3);
    }

    @Sentence(of = "Promise 11", says = "SERIES a multiplied by itself, k times (0 to 99; 0: 1)")
    static void raisedToZeroOneAnd99(Check check) {
        SeriesTables x = Check.told("size 3;series 1 1;series 0 1;series 2;");
        check.same("0", x.raise(0, 0, 5), 0);
        check.row("0", x, 5, 1, 0, 0);
        check.same("0 to the power 0", x.raise(4, 0, 5), 0);
        check.row("0 to the power 0", x, 5, 1, 0, 0);
        check.same("0 to the power 1", x.raise(4, 1, 5), 0);
        check.row("0 to the power 1", x, 5, 0, 0, 0);
        check.same("1", x.raise(0, 1, 5), 0);
        check.row("1", x, 5, 1, 1, 0);
        check.same("98", x.raise(0, 98, 5), 98 * 97 / 2);
        check.same("99", x.raise(0, 99, 5), 99 * 98 / 2);
        check.row("99", x, 5, 1, 99, 4851);
        check.same("t to the power 99", x.raise(1, 99, 5), 0);
        x.raise(2, 99, 2);
        long due = 1;
        for (int k = 0; k < 99; k++) {
            due = due * 2 % Check.P;
        }
        check.row("2 to the power 99, in place", x, 2, due, 0, 0);
    }

    @Sentence(of = "Promise 11", says = "k times (0 to 99; 0: 1): likewise")
    static void raisedBesideTheLimits(Check check) {
        SeriesTables x = Check.told("size 3;series 1 2 3;");
        for (int k : new int[] {-1, 100, 101, 128, LEAST, MOST}) {
            check.same("k " + k, x.raise(0, k, 0), -1);
        }
        for (int series : NO_SERIES) {
            check.same("a " + series, x.raise(series, 1, 0), -1);
            check.same("to " + series, x.raise(0, 1, series), -1);
            check.same("a " + series + ", k 0", x.raise(series, 0, 0), -1);
        }
        check.same("no SIZE", new SeriesTables().raise(0, 0, 0), -1);
        check.same("no act", x.now(3), 0);
        check.row("all stays", x, 0, 1, 2, 3);
    }
}
