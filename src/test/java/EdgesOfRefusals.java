import java.util.LinkedHashMap;
import java.util.Map;
import java.util.function.ToIntFunction;

/**
 * A call that is refused, and one that only tells, changes nothing that a later call shows: of two
 * objects with the same calls behind them one gets the call, and both have to go on alike.
 */
final class EdgesOfRefusals {
    private static final int TAILS = 13;

    private EdgesOfRefusals() {
    }

    /** SIZE 3, nine acts, the first image alone, a FAULT, a tape that is a TEXT. */
    private static SeriesTables used() {
        SeriesTables x = Check.told("size 3;series 1 2 3;series 0 2 1;series 0 0 1;table 0 1;");
        x.image(0);
        for (int v = 1; v <= 6; v++) {
            x.put(3, v % 3, v);
        }
        x.lay(0);
        x.times(0, 0, 1);
        x.set(2, 2, 5);
        Check.text(x, "size 1;");
        Check.tape(x, "size 4;series 7 7 over 1;".getBytes());
        return x;
    }

    /** No SIZE, no acts, the second image alone, a tape of 540 bytes. */
    private static SeriesTables fresh() {
        SeriesTables x = new SeriesTables();
        Check.tape(x, Check.filled("size 2;", 540).getBytes());
        x.image(1);
        return x;
    }

    /** What an object shows behind one of several ways to go on. */
    private static String shownBehind(SeriesTables x, int tail) {
        StringBuilder told = new StringBuilder();
        for (int undone = 0; undone < tail && tail <= 9; undone++) {
            told.append(x.undo()).append(' ');
        }
        if (tail == 10 || tail == 11) {
            told.append(x.restore(tail - 10)).append(' ');
        }
        if (tail == 12) {
            told.append(x.fault()).append(' ').append(x.text()).append(' ');
        }
        return told.append(x.fault()).append(": ").append(Shown.all(x)).append(x.unlike()).toString();
    }

    private static void changesNothing(Check check, boolean isUsed, String name, ToIntFunction<SeriesTables> call, int due) {
        for (int tail = 0; tail < TAILS; tail++) {
            SeriesTables x = isUsed ? used() : fresh();
            SeriesTables twin = isUsed ? used() : fresh();
            check.same(name, call.applyAsInt(x), due);
            boolean alike = shownBehind(x, tail).equals(shownBehind(twin, tail));
            check.same(name + " changed nothing, tail " + tail, alike, true);
        }
    }

    private static void allChangeNothing(Check check, boolean isUsed, Map<String, ToIntFunction<SeriesTables>> calls, int due) {
        calls.forEach((name, call) -> changesNothing(check, isUsed, name, call, due));
    }

    private static Map<String, ToIntFunction<SeriesTables>> refusedActsOnSeries() {
        Map<String, ToIntFunction<SeriesTables>> calls = new LinkedHashMap<>();
        calls.put("put, no series", x -> x.put(6, 0, 1));
        calls.put("put, no coefficient", x -> x.put(0, 3, 1));
        calls.put("make, no a", x -> x.make(6, 0, 0, 0));
        calls.put("make, no b", x -> x.make(0, -1, 0, 0));
        calls.put("make, no how", x -> x.make(0, 0, 5, 0));
        calls.put("make, no place", x -> x.make(0, 0, 0, 6));
        calls.put("make, division by 0", x -> x.make(0, 1, 3, 0));
        calls.put("make, inserted 1", x -> x.make(0, 0, 4, 0));
        calls.put("turn, no a", x -> x.turn(-1, 0, 0));
        calls.put("turn, no how", x -> x.turn(0, 6, 0));
        calls.put("turn, no place", x -> x.turn(0, 0, 6));
        calls.put("turn, no reverse", x -> x.turn(2, 4, 0));
        calls.put("turn, 1 by t", x -> x.turn(1, 5, 0));
        calls.put("raise, no a", x -> x.raise(6, 1, 0));
        calls.put("raise, -1", x -> x.raise(0, -1, 0));
        calls.put("raise, 100", x -> x.raise(0, 100, 0));
        calls.put("raise, no place", x -> x.raise(0, 1, 6));
        return calls;
    }

    private static Map<String, ToIntFunction<SeriesTables>> refusedActsOnTables() {
        Map<String, ToIntFunction<SeriesTables>> calls = new LinkedHashMap<>();
        calls.put("pair, no g", x -> x.pair(6, 1, 0));
        calls.put("pair, no TABLE", x -> x.pair(0, 2, 0));
        calls.put("pair, no place", x -> x.pair(0, 1, 4));
        calls.put("times, no s", x -> x.times(4, 0, 0));
        calls.put("times, no t", x -> x.times(0, -1, 0));
        calls.put("times, no place", x -> x.times(0, 0, 4));
        calls.put("power, no t", x -> x.power(4, 1, 0));
        calls.put("power, 10", x -> x.power(0, 10, 0));
        calls.put("power, -10", x -> x.power(0, -10, 0));
        calls.put("power, no place", x -> x.power(0, 2, 4));
        calls.put("part, no table", x -> x.part(4, 0, 0));
        calls.put("part, no what", x -> x.part(0, 4, 0));
        calls.put("part, no place", x -> x.part(0, 0, 6));
        calls.put("apply, no table", x -> x.apply(4, 0, 0));
        calls.put("apply, no series", x -> x.apply(0, 6, 0));
        calls.put("apply, no place", x -> x.apply(0, 0, 6));
        calls.put("sums, no table", x -> x.sums(4, 0, 0));
        calls.put("sums, no how", x -> x.sums(0, 4, 0));
        calls.put("sums, no place", x -> x.sums(0, 0, 6));
        calls.put("set, no row", x -> x.set(3, 0, 1));
        calls.put("set, above the diagonal", x -> x.set(0, 1, 1));
        calls.put("lay, no table", x -> x.lay(4));
        calls.put("rebuild, it is not", x -> x.rebuild(0));
        calls.put("drawn, 0", x -> x.drawn(0, 1));
        calls.put("drawn, 61", x -> x.drawn(61, 1));
        return calls;
    }

    private static Map<String, ToIntFunction<SeriesTables>> refusedQuestions() {
        Map<String, ToIntFunction<SeriesTables>> calls = new LinkedHashMap<>();
        calls.put("now", x -> x.now(5));
        calls.put("at", x -> x.at(0, 3));
        calls.put("kinds", x -> x.kinds(4));
        calls.put("differ, no table", x -> x.differ(4, 0, 1));
        calls.put("differ, no how", x -> x.differ(0, 1, 2));
        calls.put("fails", x -> x.fails(0, 0, 6));
        calls.put("free", x -> x.free(3, 0));
        return calls;
    }

    @Sentence(of = "Terms", says = "Places, SIZE stay as they are but where it is told.")
    static void refusedActsOnSeriesChangeNothing(Check check) {
        allChangeNothing(check, true, refusedActsOnSeries(), -1);
    }

    @Sentence(of = "Terms", says = "Places, SIZE stay as they are but where it is told.")
    static void refusedActsOnTablesChangeNothing(Check check) {
        allChangeNothing(check, true, refusedActsOnTables(), -1);
    }

    @Sentence(of = "Terms", says = "Places, SIZE stay as they are but where it is told.")
    static void refusedQuestionsChangeNothing(Check check) {
        allChangeNothing(check, true, refusedQuestions(), -1);
    }

    @Sentence(of = "Terms", says = "Places, SIZE stay as they are but where it is told.")
    static void callsWithoutSizeChangeNothing(Check check) {
        allChangeNothing(check, false, refusedActsOnSeries(), -1);
        allChangeNothing(check, false, refusedActsOnTables(), -1);
        allChangeNothing(check, false, refusedQuestions(), -1);
        changesNothing(check, false, "drawn", x -> x.drawn(60, 1), 0);
        changesNothing(check, false, "undo", x -> x.undo(), -1);
        changesNothing(check, false, "unlike", x -> x.unlike(), 101);
        changesNothing(check, false, "restore", x -> x.restore(0) ? 1 : 0, 0);
        changesNothing(check, false, "feed beyond 540", x -> x.feed(1, 2, 3, 4, 5), -1);
        changesNothing(check, false, "end beyond 540", x -> x.end(541) ? 1 : 0, 0);
    }

    @Sentence(of = "Terms", says = "Places, SIZE stay as they are but where it is told.")
    static void refusedEndsAndImagesChangeNothing(Check check) {
        changesNothing(check, true, "end beyond", x -> x.end(26) ? 1 : 0, 0);
        changesNothing(check, true, "end below 0", x -> x.end(-1) ? 1 : 0, 0);
        changesNothing(check, true, "image(2)", x -> x.image(2) ? 1 : 0, 0);
        changesNothing(check, true, "image(-1)", x -> x.image(-1) ? 1 : 0, 0);
        changesNothing(check, true, "restore(1), nothing is kept", x -> x.restore(1) ? 1 : 0, 0);
        changesNothing(check, true, "restore(2)", x -> x.restore(2) ? 1 : 0, 0);
    }

    @Sentence(of = "Terms", says = "Places, SIZE stay as they are but where it is told.")
    static void callsThatOnlyTellChangeNothing(Check check) {
        changesNothing(check, true, "now", x -> x.now(0), 3);
        changesNothing(check, true, "fault", x -> x.fault(), 2);
        changesNothing(check, true, "at", x -> x.at(0, 2), 3);
        changesNothing(check, true, "entry", x -> Check.entry(x, 0, 1, 1), 2);
        changesNothing(check, true, "production", x -> Check.production(x, 0, 0, 0), 2);
        changesNothing(check, true, "kinds", x -> x.kinds(3), 63);
        changesNothing(check, true, "differ", x -> x.differ(0, 3, 0), 10);
        changesNothing(check, true, "differ, products", x -> x.differ(0, 1, 1), -1);
        changesNothing(check, true, "fails", x -> x.fails(0, 0, 0), 1);
        changesNothing(check, true, "free", x -> x.free(2, 2), 5);
        changesNothing(check, true, "unlike", x -> x.unlike(), 22);
        changesNothing(check, true, "end at the tape's own length", x -> x.end(25) ? 1 : 0, 1);
    }

    @Sentence(of = "Terms", says = "A call that throws changes nothing.")
    static void callsThatThrowChangeNothing(Check check) {
        Map<String, ToIntFunction<SeriesTables>> calls = new LinkedHashMap<>();
        calls.put("entry, no table", x -> Check.entry(x, 4, 0, 0));
        calls.put("entry, no row", x -> Check.entry(x, 0, 3, 0));
        calls.put("entry, no column", x -> Check.entry(x, 0, 0, -1));
        calls.put("production, no table", x -> Check.production(x, -1, 0, 0));
        calls.put("production, no row", x -> Check.production(x, 0, 2, 0));
        calls.put("production, no column", x -> Check.production(x, 0, 0, 2));
        allChangeNothing(check, true, calls, Check.THROWN);
        allChangeNothing(check, false, calls, Check.THROWN);
    }
}
