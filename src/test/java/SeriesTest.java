/** Promises 7 to 11: coefficients, and what comes of series. */
public final class SeriesTest {
    private static final Check check = new Check();

    public static void main(String[] args) {
        coefficients();
        made();
        turned();
        raised();
        wrongInputs();
        check.finish();
    }

    private static void coefficients() {
        SeriesTables x = Check.told("size 3;series 1 -2 3;");
        check.same("P7 at", x.at(0, 1), Check.P - 2);
        check.same("P7 no such series", x.at(6, 0), -1);
        check.same("P7 no such series", x.at(-1, 0), -1);
        check.same("P7 no such coefficient", x.at(0, 3), -1);
        check.same("P7 no such coefficient", x.at(0, -1), -1);
        check.same("P8 put", x.put(5, 2, 1000003), 0);
        check.same("P8 put", x.put(5, 2, 1000002), 1000002);
        check.same("P8 put below 0", x.put(5, 1, -1), 1000002);
        check.same("P8 put least", x.put(5, 0, Integer.MIN_VALUE), Math.floorMod(Integer.MIN_VALUE, Check.P));
        check.same("P8 put largest", x.put(4, 0, Integer.MAX_VALUE), Integer.MAX_VALUE % Check.P);
        check.same("P8 it stands", x.at(5, 1), 1000002);
        check.same("P8 no such series", x.put(6, 0, 1), -1);
        check.same("P8 no such series", x.put(-1, 0, 1), -1);
        check.same("P8 no such coefficient", x.put(0, 3, 1), -1);
        check.same("P8 no such coefficient", x.put(0, -1, 1), -1);
        check.same("P8 acts", x.now(3), 5);
    }

    private static void made() {
        SeriesTables x = Check.told("size 5;series 1 2 3 4 5;series 0 2 -1;series 2 1;");
        check.same("P9 added", x.make(0, 1, 0, 5), 5);
        check.row("P9 added", x, 5, 1, 4, 2, 4, 5);
        check.same("P9 less", x.make(1, 0, 1, 5), Check.P - 5);
        check.row("P9 less", x, 5, -1, 0, -4, -4, -5);
        check.same("P9 multiplied", x.make(0, 1, 2, 5), 5);
        check.row("P9 multiplied", x, 5, 0, 2, 3, 4, 5);
        check.same("P9 inserted", x.make(0, 1, 4, 5), 3 + 4 * -12 + 5 * 16);
        check.row("P9 inserted", x, 5, 1, 4, -2 + 12, -12 + 32, 35);
        check.same("P9 into its own place", x.make(0, 2, 2, 0), 14);
        check.row("P9 into its own place", x, 0, 2, 5, 8, 11, 14);
        check.same("P9 by", x.make(0, 2, 3, 0), 5);
        check.row("P9 by", x, 0, 1, 2, 3, 4, 5);
        check.same("P9 by itself, to itself", x.make(0, 0, 3, 0), 0);
        check.row("P9 by itself, to itself", x, 0, 1, 0, 0, 0, 0);
        check.same("P9 inserted in itself", x.make(1, 1, 4, 1), Check.P - 1);
        check.row("P9 inserted in itself", x, 1, 0, 4, -6, 4, -1);
        check.same("P9 less itself", x.make(1, 1, 1, 1), 0);
        check.row("P9 less itself", x, 1, 0, 0, 0, 0, 0);
        check.same("P9 inserted 0", x.make(2, 1, 4, 3), 0);
        check.row("P9 inserted 0", x, 3, 2, 0, 0, 0, 0);
    }

    private static void turned() {
        SeriesTables x = Check.told("size 6;series 1 2 3 4 5 6;series 0 1 -1;series 0 2 1;");
        check.same("P10 by t", x.turn(0, 0, 5), 5);
        check.row("P10 by t", x, 5, 0, 1, 2, 3, 4, 5);
        check.same("P10 ahead", x.turn(0, 1, 5), 0);
        check.row("P10 ahead", x, 5, 2, 3, 4, 5, 6, 0);
        check.same("P10 by i", x.turn(0, 2, 5), 0);
        check.row("P10 by i", x, 5, 2, 6, 12, 20, 30, 0);
        check.same("P10 divided", x.turn(0, 3, 5), 1);
        check.row("P10 divided", x, 5, 0, 1, 1, 1, 1, 1);
        check.same("P10 reverse: Catalan's numbers", x.turn(1, 4, 5), 14);
        check.row("P10 reverse", x, 5, 0, 1, 1, 2, 5, 14);
        x.turn(2, 4, 5);
        check.same("P10 a reverse inserted", x.make(2, 5, 4, 4), 0);
        check.row("P10 a reverse inserted", x, 4, 0, 1, 0, 0, 0, 0);
        check.same("P10 1 by", x.turn(0, 5, 5), 0);
        check.row("P10 1 by", x, 5, 1, -2, 1, 0, 0, 0);
        check.same("P10 in place", x.turn(0, 0, 0), 5);
        check.row("P10 in place", x, 0, 0, 1, 2, 3, 4, 5);
        check.same("P10 in place", x.turn(0, 1, 0), 0);
        check.row("P10 in place", x, 0, 1, 2, 3, 4, 5, 0);
        check.same("P10 in place", x.turn(1, 4, 1), 14);
        SeriesTables two = Check.told("size 2;series 0 3;series 4 1;");
        check.same("P10 reverse at size 2", two.turn(0, 4, 2), Check.quotient(1, 3));
        check.same("P10 by t at size 2", two.turn(1, 0, 2), 4);
        check.same("P10 ahead at size 2", two.at(2, 0), 0);
    }

    private static void raised() {
        SeriesTables x = Check.told("size 4;series 1 1;series 0 2;series 3;");
        check.same("P11 0", x.raise(1, 0, 5), 0);
        check.row("P11 0", x, 5, 1, 0, 0, 0);
        check.same("P11 1", x.raise(1, 1, 5), 0);
        check.row("P11 1", x, 5, 0, 2, 0, 0);
        check.same("P11 3", x.raise(1, 3, 5), 8);
        check.same("P11 4", x.raise(1, 4, 5), 0);
        check.same("P11 99", x.raise(0, 99, 5), 99 * 98 * 97 / 6);
        check.row("P11 99", x, 5, 1, 99, 99 * 98 / 2, 99 * 98 * 97 / 6);
        check.same("P11 in place", x.raise(0, 5, 0), 10);
        check.row("P11 in place", x, 0, 1, 5, 10, 10);
    }

    private static void wrongInputs() {
        SeriesTables x = Check.told("size 4;series 1 1;series 0 2;series 0 0 1;");
        int[][] makes = {{6, 0, 0, 0}, {-1, 0, 0, 0}, {0, 6, 0, 0}, {0, -1, 0, 0}, {0, 0, 0, 6}, {0, 0, 0, -1},
            {0, 0, 5, 0}, {0, 0, -1, 0}, {0, 1, 3, 0}, {0, 0, 4, 0}};
        for (int[] m : makes) {
            check.same("P9 not as told", x.make(m[0], m[1], m[2], m[3]), -1);
        }
        int[][] turns = {{6, 0, 0}, {-1, 0, 0}, {0, 6, 0}, {0, -1, 0}, {0, 0, 6}, {0, 0, -1},
            {0, 4, 0}, {2, 4, 0}, {1, 5, 0}};
        for (int[] t : turns) {
            check.same("P10 not as told", x.turn(t[0], t[1], t[2]), -1);
        }
        int[][] raises = {{6, 0, 0}, {-1, 0, 0}, {0, -1, 0}, {0, 100, 0}, {0, 0, 6}, {0, 0, -1}};
        for (int[] r : raises) {
            check.same("P11 not as told", x.raise(r[0], r[1], r[2]), -1);
        }
        check.same("no act came of them", x.now(3), 0);
        check.row("all stays", x, 0, 1, 1, 0, 0);
        SeriesTables none = new SeriesTables();
        check.same("P8 no SIZE", none.put(0, 0, 1), -1);
        for (int how = 0; how < 6; how++) {
            check.same("P9 no SIZE", none.make(0, 0, how, 0), -1);
            check.same("P10 no SIZE", none.turn(0, how, 0), -1);
        }
        check.same("P11 no SIZE", none.raise(0, 0, 0), -1);
    }
}
