/** Promises 28 to 31: drawn deeds, undoing, images. That each act is undone: see EdgesOfActs. */
public final class ActsTest {
    private static final Check check = new Check();

    public static void main(String[] args) {
        drawn();
        noActs();
        eightAreKept();
        images();
        check.finish();
    }

    private static void drawn() {
        SeriesTables x = Check.told("size 7;series 5 5 5 5 5 5 5;");
        int[][] rows = new int[6][7];
        java.util.Arrays.fill(rows[0], 5);
        int s = -77;
        for (int deed = 0; deed < 60; deed++) {
            int[] draws = new int[3];
            int[] of = {6, 7, 19};
            for (int k = 0; k < 3; k++) {
                s = s * 1103515245 + 12345;
                draws[k] = (s >>> 8) % of[k];
            }
            rows[draws[0]][draws[1]] = draws[2] - 9;
        }
        int sum = 0;
        for (int[] row : rows) {
            for (int v : row) {
                sum += v;
            }
        }
        check.same("P28 drawn", x.drawn(60, -77), Math.floorMod(sum, Check.P));
        for (int k = 0; k < 6; k++) {
            for (int i = 0; i < 7; i++) {
                check.same("P28 coefficient", x.at(k, i), Math.floorMod(rows[k][i], Check.P));
            }
        }
        check.same("P28 0", x.drawn(0, 1), -1);
        check.same("P28 61", x.drawn(61, 1), -1);
        check.same("P28 -1", x.drawn(-1, 1), -1);
        check.same("P28 an act", x.now(3), 1);
        check.same("P28 one deed", x.drawn(1, 0) != -1, true);
        check.same("P29 undone", x.undo(), 1);
        check.same("P29 undone", x.undo(), 0);
        check.row("P29 undone", x, 0, 5, 5, 5, 5, 5, 5, 5);
        check.row("P29 undone", x, 1, 0, 0, 0, 0, 0, 0, 0);
        SeriesTables none = new SeriesTables();
        check.same("P28 no SIZE", none.drawn(60, 1), 0);
        check.same("P28 no SIZE, 61", none.drawn(61, 1), -1);
        check.same("P28 no act without SIZE", none.now(3), 0);
        check.same("P29 none", none.undo(), -1);
    }

    private static void noActs() {
        SeriesTables x = Check.told("size 3;series 1 2 3;series 0 2 1;table 0 1;");
        x.put(0, 0, 1);
        check.same("P29 an act that changes nothing is one", x.now(3), 1);
        x.at(0, 0);
        x.kinds(0);
        x.differ(0, 1, 1);
        x.fails(0, 1, 2);
        x.free(0, 0);
        x.unlike();
        x.rebuild(0);
        x.drawn(0, 0);
        x.image(0);
        x.entry(0, 0, 0);
        x.production(0, 0, 0);
        x.feed(1, 2, 3, 4, 5);
        x.end(0);
        check.same("P29 these are no acts", x.now(3), 1);
        check.same("P29 undo", x.undo(), 0);
        check.same("P29 nothing more", x.undo(), -1);
    }

    private static void eightAreKept() {
        SeriesTables x = Check.told("size 2;");
        for (int v = 1; v <= 11; v++) {
            x.put(0, 0, v);
            check.same("P6 acts", x.now(3), Math.min(v, 8));
        }
        for (int left = 7; left >= 0; left--) {
            check.same("P29 undo", x.undo(), left);
            check.same("P29 undone", x.at(0, 0), left + 3);
        }
        check.same("P29 no more", x.undo(), -1);
        check.same("P29 it stays", x.at(0, 0), 3);
        x.put(0, 0, 50);
        check.same("P29 acts anew", x.undo(), 0);
        check.same("P29 undone", x.at(0, 0), 3);
    }

    private static void images() {
        SeriesTables x = new SeriesTables();
        check.same("P31 nothing is kept", x.restore(0), false);
        check.same("P30 without SIZE", x.image(1), true);
        Check.text(x, "size 3;series 1 2 3;series 0 2 1;table 0 1;");
        x.lay(0);
        x.set(2, 2, 77);
        String was = Shown.places(x);
        check.same("P30 image", x.image(0), true);
        check.same("P30 acts stay", x.now(3), 2);
        check.same("P30 no such place", x.image(2), false);
        check.same("P30 no such place", x.image(-1), false);
        Check.text(x, "size 4;series 1;");
        x.put(1, 1, 5);
        Check.text(x, "nothing");
        x.feed(1, 2, 3, 4, 5);
        check.same("P31 no such place", x.restore(2), false);
        check.same("P31 no such place", x.restore(-1), false);
        check.same("P31 acts stay then", x.now(3), 1);
        check.same("P31 restore", x.restore(0), true);
        check.same("P31 SIZE", x.now(0), 3);
        check.same("P31 all places", Shown.places(x).equals(was), true);
        check.same("P31 SERIES told stay", x.now(1), 1);
        check.same("P31 TABLES told stay", x.now(2), 0);
        check.same("P31 nothing can be undone", x.now(3), 0);
        check.same("P31 nothing can be undone", x.undo(), -1);
        check.same("P31 the tape stays", x.now(4), 20);
        check.same("P31 fault() stays", x.fault(), 1);
        x.put(0, 0, 9);
        x.set(0, 0, 9);
        x.power(0, 2, 0);
        check.same("P31 once more", x.restore(0), true);
        check.same("P31 the image is its own", Shown.places(x).equals(was), true);
        check.same("P31 the one without SIZE", x.restore(1), true);
        check.same("P31 no SIZE", x.now(0), 0);
        check.same("P31 no coefficients", x.at(0, 0), -1);
        x.image(0);
        check.same("P30 kept anew", x.restore(0), true);
        check.same("P30 kept anew", x.now(0), 0);
    }
}
