/** Every call without SIZE: of a new object, behind an empty TEXT, behind restore() of such a one. */
final class EdgesWithoutSize {
    private EdgesWithoutSize() {
    }

    private static SeriesTables[] withoutSize() {
        SeriesTables emptied = Check.told("size 3;series 1 2 3;series 0 2 1;table 0 1;");
        emptied.lay(0);
        emptied.text();
        SeriesTables restored = new SeriesTables();
        restored.image(0);
        Check.text(restored, "size 3;series 1 2 3;series 0 2 1;table 0 1;");
        restored.put(0, 0, 1);
        restored.restore(0);
        SeriesTables refused = new SeriesTables();
        Check.text(refused, "size 3;series 1;,");
        return new SeriesTables[] {new SeriesTables(), emptied, restored, refused};
    }

    @Sentence(of = "Promise 1", says = "No SIZE (0: no coefficients, ENTRIES)")
    static void seriesWithoutSize(Check check) {
        for (SeriesTables x : withoutSize()) {
            check.same("SIZE", x.now(0), 0);
            for (int series = 0; series < 6; series++) {
                check.same("at", x.at(series, 0), -1);
                check.same("put", x.put(series, 0, 1), -1);
                check.same("raise", x.raise(series, 0, series), -1);
                for (int how = 0; how <= 5; how++) {
                    check.same("make", x.make(series, 0, how, 0), -1);
                    check.same("turn", x.turn(series, how, 0), -1);
                }
            }
            check.same("no act", x.now(3), 0);
        }
    }

    @Sentence(of = "Promise 1", says = "No SIZE (0: no coefficients, ENTRIES)")
    static void tablesWithoutSize(Check check) {
        for (SeriesTables x : withoutSize()) {
            for (int table = 0; table < 4; table++) {
                check.same("pair", x.pair(0, 1, table), -1);
                check.same("entry", Check.entry(x, table, 0, 0), Check.THROWN);
                check.same("production", Check.production(x, table, 0, 0), Check.THROWN);
                check.same("times", x.times(table, table, table), -1);
                check.same("power", x.power(table, 0, table), -1);
                check.same("apply", x.apply(table, 0, 0), -1);
                check.same("kinds", x.kinds(table), -1);
                check.same("fails", x.fails(table, 0, 1), -1);
                check.same("lay", x.lay(table), -1);
                check.same("rebuild", x.rebuild(table), -1);
                for (int how = 0; how <= 3; how++) {
                    check.same("part", x.part(table, how, 0), -1);
                    check.same("sums", x.sums(table, how, 0), -1);
                    check.same("differ", x.differ(table, 0, how), -1);
                }
            }
            check.same("no act", x.now(3), 0);
        }
    }

    @Sentence(of = "Promise 1", says = "No SIZE (0: no coefficients, ENTRIES)")
    static void freeTableAndActsWithoutSize(Check check) {
        for (SeriesTables x : withoutSize()) {
            check.same("free", x.free(0, 0), -1);
            check.same("set", x.set(0, 0, 1), -1);
            check.same("unlike", x.unlike(), 101);
            check.same("drawn", x.drawn(1, 1), 0);
            check.same("drawn", x.drawn(60, 1), 0);
            check.same("no act", x.now(3), 0);
            check.same("undo", x.undo(), -1);
            check.same("image", x.image(1), true);
            check.same("restore", x.restore(1), true);
            check.same("feed", x.feed(1, 2, 3, 4, 5), 20);
            check.same("end", x.end(0), true);
            check.same("text", x.text(), 0);
            check.same("fault", x.fault(), 0);
            check.same("SIZE", x.now(0), 0);
        }
    }
}
