/** Drawn deeds, acts undone, images: the limits that the document names. */
final class EdgesOfActs {
    private static final int LEAST = Integer.MIN_VALUE;
    private static final int MOST = Integer.MAX_VALUE;
    private static final String TOLD = "size 3;series 1 2 3;series 0 2 1;table 0 1;";

    private EdgesOfActs() {
    }

    @Sentence(of = "Terms", says = "A new TEXT: all places are as at first but those that it tells")
    static void newTextSetsWhatItDoesNotTell(Check check) {
        SeriesTables x = Check.told("size 10;series 1 2 3 4 5 6 7 8 9 10;series 0 2 1;table 0 1;table 0 1;");
        x.drawn(60, 1);
        x.lay(0);
        x.pair(0, 1, 3);
        Check.text(x, "size 10;series 7;");
        allButTheFirstSeriesAsAtFirst(check, x);
        check.row("what it tells", x, 0, 7, 0, 0, 0, 0, 0, 0, 0, 0, 0);
        Check.text(x, "size 10;");
        allButTheFirstSeriesAsAtFirst(check, x);
        check.row("no SERIES told", x, 0, 0, 0, 0, 0, 0, 0, 0, 0, 0, 0);
    }

    private static void allButTheFirstSeriesAsAtFirst(Check check, SeriesTables x) {
        for (int series = 1; series < 6; series++) {
            check.row("series as at first", x, series, 0, 0, 0, 0, 0, 0, 0, 0, 0, 0);
        }
        for (int table = 0; table < 4; table++) {
            check.same("tables as at first", x.kinds(table), 63);
        }
        for (int i = 0; i < 10; i++) {
            for (int j = 0; j <= i; j++) {
                check.same("THE FREE TABLE as at first", x.free(i, j), 0);
            }
        }
    }

    @Sentence(of = "Terms", says = "but those that it tells, nothing can be undone")
    static void nothingIsUndoneBehindANewText(Check check) {
        SeriesTables x = Check.told("size 3;");
        x.put(0, 0, 1);
        x.put(0, 0, 2);
        Check.text(x, "size 1;");
        check.same("a FAULT leaves acts", x.now(3), 2);
        Check.text(x, "size 3;");
        check.same("none can be undone", x.now(3), 0);
        check.same("none is", x.undo(), -1);
        x.put(0, 0, 1);
        x.text();
        check.same("an empty TEXT: none can be undone", x.now(3), 0);
        check.same("none is", x.undo(), -1);
    }

    @Sentence(of = "Terms", says = "a draw of 6, of SIZE, of 19: that coefficient of that SERIES is what was drawn less 9")
    static void leastAndLargestDraws(Check check) {
        // {SIZE, seed, SERIES, coefficient, number}: of each what the first three draws give.
        int[][] deeds = {{2, 106, 5, 1, -9}, {2, 19, 0, 0, 9}, {2, 857, 5, 1, 9}, {2, 1686, 0, 0, -9}, {2, 18, 3, 1, 0},
            {10, 237, 5, 9, -9}, {10, 307, 0, 0, 9}, {10, 2582, 5, 9, 9}, {10, 2819, 0, 0, -9}, {10, 0, 0, 8, 8}};
        for (int[] deed : deeds) {
            SeriesTables x = Check.told("size " + deed[0] + ";");
            int due = Math.floorMod(deed[4], Check.P);
            x.put(deed[2], deed[3], 500);
            check.same("drawn by " + deed[1], x.drawn(1, deed[1]), due);
            check.same("its coefficient", x.at(deed[2], deed[3]), due);
        }
    }

    @Sentence(of = "Terms", says = "s becomes s * 1103515245 + 12345 (an int, wrapping), the draw is (s >>> 8) % n")
    static void seedsWrapAround(Check check) {
        // {seed, SERIES, coefficient, number} at SIZE 10.
        int[][] deeds = {{MOST, 5, 6, 6}, {LEAST, 2, 0, -5}, {-1, 1, 8, -7}};
        for (int[] deed : deeds) {
            SeriesTables x = Check.told("size 10;");
            int due = Math.floorMod(deed[3], Check.P);
            check.same("drawn by " + deed[0], x.drawn(1, deed[0]), due);
            check.same("its coefficient", x.at(deed[1], deed[2]), due);
        }
    }

    @Sentence(of = "Promise 28", says = "n (1 to 60) DEEDS DRAWN by a seed")
    static void drawnOneAndSixty(Check check) {
        for (int n : new int[] {1, 2, 59, 60}) {
            SeriesTables x = Check.told("size 7;");
            int[][] due = new int[6][7];
            long s = 77;
            for (int deed = 0; deed < n; deed++) {
                int[] draws = new int[3];
                int[] of = {6, 7, 19};
                for (int k = 0; k < 3; k++) {
                    s = (s * 1103515245L + 12345) & 0xffffffffL;
                    draws[k] = (int) ((s >> 8) % of[k]);
                }
                due[draws[0]][draws[1]] = draws[2] - 9;
            }
            long sum = 0;
            for (int[] row : due) {
                for (int number : row) {
                    sum += number;
                }
            }
            check.same("drawn(" + n + ")", x.drawn(n, 77), Math.floorMod(sum, (long) Check.P));
            for (int series = 0; series < 6; series++) {
                for (int i = 0; i < 7; i++) {
                    check.same("coefficient", x.at(series, i), Math.floorMod(due[series][i], Check.P));
                }
            }
            check.same("one act", x.now(3), 1);
        }
    }

    @Sentence(of = "Promise 28", says = "the sum of all coefficients of SERIES then (modulo 1,000,003)")
    static void sumOfAllCoefficientsWraps(Check check) {
        SeriesTables x = Check.told("size 2;");
        x.put(0, 1, 1000002);
        x.put(5, 0, 1000002);
        check.same("-1, -1 and -9", x.drawn(1, 106), 1000003 - 11);
        x.put(0, 1, 1);
        check.same("1, -1 and 9", x.drawn(1, 857), 9);
    }

    @Sentence(of = "Promise 28", says = "NONE: not as told")
    static void drawnBesideTheLimits(Check check) {
        SeriesTables x = Check.told(TOLD);
        for (int n : new int[] {0, -1, 61, 62, LEAST, MOST}) {
            check.same("drawn(" + n + ")", x.drawn(n, 1), -1);
            check.same("without SIZE drawn(" + n + ")", new SeriesTables().drawn(n, 1), -1);
        }
        check.same("no act", x.now(3), 0);
        check.row("all stays", x, 0, 1, 2, 3);
    }

    @Sentence(of = "Terms", says = "(without SIZE: nothing, the first draw alone)")
    static void drawnWithoutSize(Check check) {
        SeriesTables x = new SeriesTables();
        check.same("drawn(1)", x.drawn(1, 7), 0);
        check.same("drawn(60)", x.drawn(60, 7), 0);
        check.same("no act", x.now(3), 0);
        check.same("none is undone", x.undo(), -1);
        Check.text(x, "size 2;");
        check.row("nothing came of it", x, 0, 0, 0);
    }

    /** The acts in the order in which undo() names them; each one is an act on what acted() tells. */
    private static int act(SeriesTables x, int which) {
        switch (which) {
            case 0: return x.put(5, 0, 8);
            case 1: return x.make(0, 1, 0, 5);
            case 2: return x.turn(0, 0, 5);
            case 3: return x.raise(0, 2, 5);
            case 4: return x.pair(0, 1, 3);
            case 5: return x.times(0, 0, 3);
            case 6: return x.power(0, -1, 3);
            case 7: return x.part(0, 0, 5);
            case 8: return x.apply(0, 0, 5);
            case 9: return x.sums(0, 0, 5);
            case 10: return x.set(2, 1, 8);
            case 11: return x.lay(3);
            case 12: return x.rebuild(3);
            default: return x.drawn(3, 5);
        }
    }

    private static SeriesTables acted() {
        SeriesTables x = Check.told(TOLD);
        x.lay(0);
        return x;
    }

    @Sentence(of = "Promise 29", says = "The latest put(), make(), turn(), raise(), pair(), times(), power(), part(), apply(), "
        + "sums(), set(), lay(), rebuild() that was not NONE, drawn() (with SIZE) is undone")
    static void eachActIsUndone(Check check) {
        for (int which = 0; which <= 13; which++) {
            SeriesTables x = acted();
            String was = Shown.all(x);
            check.same("act " + which, act(x, which) != -1, true);
            check.same("act " + which + " shows", Shown.places(x).equals(Shown.places(acted())), false);
            check.same("act " + which + " can be undone", x.now(3), 2);
            check.same("act " + which + " is undone", x.undo(), 1);
            check.same("act " + which + " left nothing", Shown.all(x).equals(was), true);
        }
    }

    @Sentence(of = "Promise 29", says = "that was not NONE, drawn() (with SIZE) is undone")
    static void anActThatChangesNothingIsOne(Check check) {
        SeriesTables x = Check.told(TOLD);
        x.put(0, 0, 7);
        x.put(0, 0, 7);
        check.same("two acts", x.now(3), 2);
        check.same("the second one is undone", x.undo(), 1);
        check.same("it had changed nothing", x.at(0, 0), 7);
        check.same("the first one is undone", x.undo(), 0);
        check.same("it had", x.at(0, 0), 1);
    }

    @Sentence(of = "Promise 29", says = "how many more can be (8 at most are kept)")
    static void eightActsAreKept(Check check) {
        for (int acts = 1; acts <= 20; acts++) {
            SeriesTables x = Check.told("size 2;");
            for (int v = 1; v <= acts; v++) {
                x.put(5, 1, v);
                check.same("acts kept", x.now(3), Math.min(v, 8));
            }
            int kept = Math.min(acts, 8);
            for (int left = kept - 1; left >= 0; left--) {
                check.same("undo", x.undo(), left);
                check.same("undone", x.at(5, 1), acts - kept + left);
                check.same("acts left", x.now(3), left);
            }
            check.same("the ninth is not kept", x.undo(), -1);
            check.same("it stays", x.at(5, 1), acts - kept);
        }
    }

    @Sentence(of = "Promise 29", says = "how many more can be (8 at most are kept)")
    static void actsBehindAnUndo(Check check) {
        SeriesTables x = Check.told("size 2;");
        for (int v = 1; v <= 9; v++) {
            x.put(0, 0, v);
        }
        check.same("undo", x.undo(), 7);
        x.put(0, 0, 20);
        check.same("eight again", x.now(3), 8);
        x.put(0, 0, 21);
        check.same("eight at most", x.now(3), 8);
        int[] due = {20, 8, 7, 6, 5, 4, 3, 2};
        for (int k = 0; k < 8; k++) {
            check.same("undo", x.undo(), 7 - k);
            check.same("undone", x.at(0, 0), due[k]);
        }
        check.same("none more", x.undo(), -1);
    }

    @Sentence(of = "Promise 29", says = "NONE: none is")
    static void undoWithNoActs(Check check) {
        SeriesTables x = new SeriesTables();
        check.same("of a new object", x.undo(), -1);
        Check.text(x, TOLD);
        check.same("behind a TEXT", x.undo(), -1);
        check.same("SIZE stays", x.now(0), 3);
        check.row("what it told stays", x, 0, 1, 2, 3);
        x.put(0, 9, 1);
        check.same("behind a put() that is NONE", x.undo(), -1);
        x.put(0, 0, 9);
        check.same("behind an act", x.undo(), 0);
        check.same("once more", x.undo(), -1);
        check.same("and once more", x.undo(), -1);
        check.same("acts are never below 0", x.now(3), 0);
        x.put(0, 0, 9);
        x.image(0);
        x.restore(0);
        check.same("behind restore()", x.undo(), -1);
        check.same("it stays", x.at(0, 0), 9);
    }

    @Sentence(of = "Promise 30", says = "SIZE, all places, THE FREE TABLE are kept in place k (0, 1): true")
    static void bothImagesKeepAll(Check check) {
        SeriesTables x = Check.told(TOLD);
        x.put(5, 2, 4);
        x.pair(0, 1, 3);
        x.lay(0);
        x.set(2, 2, 77);
        String first = Shown.places(x);
        check.same("image(0)", x.image(0), true);
        check.same("acts stay", x.now(3), 4);
        Check.text(x, "size 8;series 1;series 0 3 0 0 0 0 0 2;table 0 1;");
        x.lay(0);
        String second = Shown.places(x);
        check.same("image(1)", x.image(1), true);
        check.same("restore(0)", x.restore(0), true);
        check.same("SIZE", x.now(0), 3);
        check.same("all places", Shown.places(x).equals(first), true);
        x.drawn(60, 3);
        x.lay(3);
        check.same("restore(1)", x.restore(1), true);
        check.same("SIZE", x.now(0), 8);
        check.same("all places", Shown.places(x).equals(second), true);
    }

    @Sentence(of = "Promise 30", says = "SIZE, all places, THE FREE TABLE are kept in place k (0, 1): true")
    static void imageOfNoSizeAndImageAnew(Check check) {
        SeriesTables x = new SeriesTables();
        check.same("without SIZE", x.image(1), true);
        Check.text(x, TOLD);
        check.same("restore(1)", x.restore(1), true);
        check.same("no SIZE", x.now(0), 0);
        check.same("no coefficients", x.at(0, 0), -1);
        Check.text(x, TOLD);
        check.same("the place anew", x.image(1), true);
        x.put(0, 0, 9);
        check.same("restore(1)", x.restore(1), true);
        check.row("what was kept last", x, 0, 1, 2, 3);
    }

    @Sentence(of = "Promise 30", says = "SIZE, all places, THE FREE TABLE are kept in place k (0, 1): true")
    static void imageOfTheLargestSize(Check check) {
        SeriesTables x = Check.told("size 10;series 1 2 3 4 5 6 7 8 9 10;series 0 3 0 0 0 0 0 0 0 2;table 0 1;");
        x.times(0, 0, 3);
        x.drawn(60, 60);
        x.lay(3);
        String kept = Shown.places(x);
        x.image(1);
        x.text();
        check.same("restore(1)", x.restore(1), true);
        check.same("all places", Shown.places(x).equals(kept), true);
    }

    @Sentence(of = "Promise 30", says = "false: no such one")
    static void imageInNoPlace(Check check) {
        SeriesTables x = Check.told(TOLD);
        for (int k : new int[] {-1, 2, 3, LEAST, MOST}) {
            check.same("image(" + k + ")", x.image(k), false);
            check.same("restore(" + k + ")", x.restore(k), false);
        }
        check.same("nothing came to place 0", x.restore(0), false);
        check.same("nothing came to place 1", x.restore(1), false);
    }

    @Sentence(of = "Promise 31", says = "(the tape, what fault(), now(1), now(2) tell, stays; nothing can be undone): true")
    static void whatStaysBehindRestore(Check check) {
        SeriesTables x = Check.told(TOLD);
        x.image(0);
        Check.text(x, "size 2;series 1;series 0 1;series 2;table 0 1;table 2 1;");
        x.put(0, 0, 5);
        Check.text(x, "size 1;");
        x.feed(0x73697a65, 0x20363b20, 0x20202020, 0x20202020, 0x20202020);
        x.end(7);
        check.same("restore", x.restore(0), true);
        check.same("SIZE", x.now(0), 3);
        check.same("SERIES told", x.now(1), 3);
        check.same("TABLES told", x.now(2), 2);
        check.same("nothing can be undone", x.now(3), 0);
        check.same("the tape", x.now(4), 7);
        check.same("fault()", x.fault(), 2);
        check.same("nothing is undone", x.undo(), -1);
        check.row("as kept", x, 0, 1, 2, 3);
        check.same("the tape is a TEXT", x.text(), 1);
        check.same("its SIZE", x.now(0), 6);
    }

    @Sentence(of = "Promise 31", says = "They are as kept in place k")
    static void restoredMoreThanOnce(Check check) {
        SeriesTables x = Check.told(TOLD);
        x.lay(0);
        x.image(0);
        String kept = Shown.places(x);
        for (int times = 0; times < 3; times++) {
            x.drawn(60, times);
            x.set(2, 0, 1000 + times);
            x.power(0, 2, 0);
            check.same("restore", x.restore(0), true);
            check.same("as kept", Shown.places(x).equals(kept), true);
        }
    }

    @Sentence(of = "Promise 31", says = "false: no such one, or nothing is kept there")
    static void restoreWhereNothingIsKept(Check check) {
        SeriesTables none = new SeriesTables();
        check.same("restore(0) of a new object", none.restore(0), false);
        check.same("restore(1) of a new object", none.restore(1), false);
        for (int kept = 0; kept <= 1; kept++) {
            SeriesTables x = Check.told(TOLD);
            x.image(kept);
            x.put(0, 0, 9);
            x.set(0, 0, 9);
            for (int k : new int[] {1 - kept, -1, 2, LEAST, MOST}) {
                check.same("restore(" + k + ")", x.restore(k), false);
                check.same("it stays", x.at(0, 0), 9);
                check.same("acts stay", x.now(3), 2);
            }
            check.same("the one that is kept", x.restore(kept), true);
            check.same("as kept", x.at(0, 0), 1);
        }
    }
}
