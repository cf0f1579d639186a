/** Promises 23 to 27: the free table. */
public final class FreeTableTest {
    private static final Check check = new Check();

    public static void main(String[] args) {
        numbers();
        laid();
        recognised();
        withoutSize();
        check.finish();
    }

    private static void numbers() {
        SeriesTables x = Check.told("size 3;");
        check.same("P23 at first", x.free(2, 1), 0);
        check.same("P24 set", x.set(2, 1, 1000005), 2);
        check.same("P24 set below 0", x.set(2, 2, -2), 1000001);
        check.same("P23 free", x.free(2, 1), 2);
        check.same("P23 above the diagonal", x.free(1, 2), 0);
        check.same("P24 above the diagonal", x.set(1, 2, 5), -1);
        check.same("P24 no such row", x.set(3, 0, 5), -1);
        check.same("P24 no such row", x.set(-1, -1, 5), -1);
        check.same("P24 no such column", x.set(2, -1, 5), -1);
        check.same("P24 no such column", x.set(2, 3, 5), -1);
        check.same("P23 no such row", x.free(3, 0), -1);
        check.same("P23 no such row", x.free(-1, 0), -1);
        check.same("P23 no such column", x.free(0, 3), -1);
        check.same("P23 no such column", x.free(0, -1), -1);
        check.same("acts", x.now(3), 2);
    }

    private static void laid() {
        SeriesTables x = Check.told("size 4;series 2 1;series 0 3 1;table 0 1;series -1;series 0 1;table 2 3;");
        check.same("P25 lay", x.lay(0), 0);
        for (int i = 0; i < 4; i++) {
            for (int j = 0; j < 4; j++) {
                check.same("P25 laid " + i + " " + j, x.free(i, j), Check.entry(x, 0, i, j));
            }
        }
        check.same("P25 its kinds", x.lay(1), 1 + 16 + 32);
        check.same("P25 its kinds", x.lay(2), 63);
        check.same("P25 laid anew", x.free(1, 0), 0);
        check.same("P25 no such table", x.lay(4), -1);
        check.same("P25 no such table", x.lay(-1), -1);
        check.same("P25 acts", x.now(3), 3);
    }

    private static void recognised() {
        SeriesTables x = Check.told("size 5;series 2 1;series 0 3 1 0 7;table 0 1;");
        check.same("P26 of 0 alone", x.unlike(), 100);
        check.same("P27 of 0 alone", x.rebuild(1), -1);
        x.set(0, 0, 1);
        check.same("P26 without (1, 1)", x.unlike(), 100);
        x.set(1, 1, 1);
        check.same("P26 without (2, 2)", x.unlike(), 22);
        x.lay(0);
        check.same("P26 recognised", x.unlike(), -1);
        check.same("P27 no such place", x.rebuild(4), -1);
        check.same("P27 no such place", x.rebuild(-1), -1);
        check.same("P27 as pair()", x.rebuild(1), 2 * 7);
        check.same("P27 the table", x.differ(0, 1, 0), -1);
        x.part(1, 1, 5);
        check.row("P27 its f", x, 5, 0, 3, 1, 0, 7);
        x.set(4, 4, 5);
        check.same("P26 the last one", x.unlike(), 44);
        check.same("P27 it is not", x.rebuild(1), -1);
        x.set(3, 2, 1);
        check.same("P26 the first of two", x.unlike(), 32);
        x.lay(0);
        x.set(4, 1, 9);
        check.same("P26 another f", x.unlike(), -1);
        check.same("P27 another f", x.rebuild(1), 9);
        x.set(2, 0, 9);
        check.same("P26 another g: of its columns 0 and 1", x.unlike(), 42);
        x.set(0, 0, 0);
        check.same("P26 no g", x.unlike(), 100);
        SeriesTables two = Check.told("size 2;");
        two.set(0, 0, 3);
        two.set(1, 0, 5);
        check.same("P26 at size 2", two.unlike(), 100);
        two.set(1, 1, 6);
        check.same("P26 at size 2", two.unlike(), -1);
        check.same("P27 at size 2", two.rebuild(3), 6);
        two.part(3, 1, 0);
        check.row("P27 at size 2", two, 0, 0, 2);
    }

    private static void withoutSize() {
        SeriesTables x = new SeriesTables();
        check.same("P23 no SIZE", x.free(0, 0), -1);
        check.same("P24 no SIZE", x.set(0, 0, 0), -1);
        check.same("P25 no SIZE", x.lay(0), -1);
        check.same("P26 no SIZE", x.unlike(), 101);
        check.same("P27 no SIZE", x.rebuild(0), -1);
    }
}
