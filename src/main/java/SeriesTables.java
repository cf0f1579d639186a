import java.util.Arrays;
import java.util.NoSuchElementException;

/** Triangular tables from two series, as the document's promises 1 to 31 tell. */
public final class SeriesTables {
    public static final int NONE = -1;

    private static final int PRIME = 1000003;
    private static final int LARGEST_SIZE = 10;
    private static final int SERIES_PLACES = 6;
    private static final int TABLE_PLACES = 4;
    private static final int IMAGE_PLACES = 2;
    private static final int ACTS_KEPT = 8;
    private static final int TAPE_ROOM = 540;
    private static final int TEXT_ROOM = 500;
    private static final int BYTES_OF_A_FEED = 20;
    private static final int LARGEST_RAISE = 99;
    private static final int LARGEST_POWER = 9;
    private static final int MOST_DEEDS = 60;
    private static final int COLUMNS_MAKE_NO_TABLE = 100;
    private static final int NO_SIZE = 101;

    private final Tape tape;
    private final Reader reader;
    private final State state;
    private final History history;
    private final State[] images;
    private final boolean[] imageKept;
    private final SeriesBench seriesBench;
    private final TableBench tableBench;
    private int faultKind;
    private int seriesTold;
    private int tablesTold;

    public SeriesTables() {
        reader = new Reader();
        tape = reader.tape;
        state = new State();
        history = new History();
        images = new State[IMAGE_PLACES];
        for (int k = 0; k < IMAGE_PLACES; k++) {
            images[k] = new State();
        }
        imageKept = new boolean[IMAGE_PLACES];
        seriesBench = new SeriesBench();
        tableBench = new TableBench();
    }

    // ---- the tape and its text ----

    public int feed(int a, int b, int c, int d, int e) {
        if (tape.length + BYTES_OF_A_FEED > TAPE_ROOM) {
            return NONE;
        }
        tape.addFourBytes(a);
        tape.addFourBytes(b);
        tape.addFourBytes(c);
        tape.addFourBytes(d);
        tape.addFourBytes(e);
        return tape.length;
    }

    public boolean end(int n) {
        if (n < 0 || n > tape.length) {
            return false;
        }
        tape.length = n;
        return true;
    }

    public int text() {
        boolean told = reader.readText();
        tape.length = 0;
        faultKind = reader.faultKind;
        if (!told) {
            return -1 - reader.faultPlace;
        }
        state.copyFrom(reader.draft);
        seriesTold = reader.seriesTold;
        tablesTold = reader.tablesTold;
        history.forget();
        return reader.lines;
    }

    public int fault() {
        return faultKind;
    }

    public int now(int what) {
        switch (what) {
            case 0:
                return state.size;
            case 1:
                return seriesTold;
            case 2:
                return tablesTold;
            case 3:
                return history.kept;
            case 4:
                return tape.length;
            default:
                return NONE;
        }
    }

    // ---- series ----

    public int at(int series, int i) {
        if (!isSeries(series) || !isWithinSize(i)) {
            return NONE;
        }
        return state.series[series][i];
    }

    public int put(int series, int i, int v) {
        if (!isSeries(series) || !isWithinSize(i)) {
            return NONE;
        }
        history.keep(state);
        state.series[series][i] = Math.floorMod(v, PRIME);
        return state.series[series][i];
    }

    public int make(int a, int b, int how, int to) {
        if (!isSeries(a) || !isSeries(b) || !isSeries(to)) {
            return NONE;
        }
        if (!seriesBench.combine(state.series[a], state.series[b], how, state.size)) {
            return NONE;
        }
        return landSeries(seriesBench.result, to);
    }

    public int turn(int a, int how, int to) {
        if (!isSeries(a) || !isSeries(to)) {
            return NONE;
        }
        if (!seriesBench.turnAbout(state.series[a], how, state.size)) {
            return NONE;
        }
        return landSeries(seriesBench.result, to);
    }

    public int raise(int a, int k, int to) {
        if (!isSeries(a) || !isSeries(to) || k < 0 || k > LARGEST_RAISE) {
            return NONE;
        }
        seriesBench.raiseTo(state.series[a], k, state.size);
        return landSeries(seriesBench.result, to);
    }

    // ---- tables ----

    public int pair(int g, int f, int to) {
        if (!isSeries(g) || !isSeries(f) || !isTable(to)) {
            return NONE;
        }
        if (!Rows.makeTable(state.series[g], state.series[f])) {
            return NONE;
        }
        tableBench.result.become(state.series[g], state.series[f]);
        return landTable(to);
    }

    public int entry(int table, int i, int j) throws NoSuchElementException {
        if (!isTable(table) || !isWithinSize(i) || !isWithinSize(j)) {
            throw new NoSuchElementException();
        }
        return tableBench.entryOf(state.tables[table], i, j, state.size);
    }

    public int times(int s, int t, int to) {
        if (!isTable(s) || !isTable(t) || !isTable(to)) {
            return NONE;
        }
        TableBench.multiply(state.tables[s], state.tables[t], state.size, tableBench.result);
        return landTable(to);
    }

    public int power(int t, int k, int to) {
        if (!isTable(t) || !isTable(to) || k < -LARGEST_POWER || k > LARGEST_POWER) {
            return NONE;
        }
        tableBench.powerOf(state.tables[t], k, state.size);
        return landTable(to);
    }

    public int part(int table, int what, int to) {
        if (!isTable(table) || !isSeries(to)) {
            return NONE;
        }
        if (!tableBench.partOf(state.tables[table], what, state.size)) {
            return NONE;
        }
        landSeries(tableBench.row, to);
        return state.series[to][0];
    }

    public int apply(int table, int series, int to) {
        if (!isTable(table) || !isSeries(series) || !isSeries(to)) {
            return NONE;
        }
        tableBench.makeOf(state.tables[table], state.series[series], state.size);
        return landSeries(tableBench.row, to);
    }

    public int sums(int table, int how, int to) {
        if (!isTable(table) || !isSeries(to) || how < 0 || how > 3) {
            return NONE;
        }
        tableBench.sumRows(state.tables[table], how, state.size);
        return landSeries(tableBench.row, to);
    }

    public int production(int table, int i, int j) throws NoSuchElementException {
        if (!isTable(table) || !isWithinProduction(i) || !isWithinProduction(j)) {
            throw new NoSuchElementException();
        }
        return tableBench.productionOf(state.tables[table], i, j, state.size);
    }

    // ---- what is told of tables ----

    public int kinds(int table) {
        if (!isTable(table)) {
            return NONE;
        }
        return tableBench.kindsOf(state.tables[table], state.size);
    }

    public int differ(int s, int t, int how) {
        if (!isTable(s) || !isTable(t)) {
            return NONE;
        }
        if (how == 0) {
            return tableBench.firstDifference(state.tables[s], state.tables[t], state.size);
        }
        if (how == 1) {
            return tableBench.firstOfChangedPlaces(state.tables[s], state.tables[t], state.size);
        }
        return NONE;
    }

    public int fails(int table, int a, int b) {
        if (!isTable(table) || !isSeries(a) || !isSeries(b)) {
            return NONE;
        }
        tableBench.makeOf(state.tables[table], state.series[a], state.size);
        for (int n = 0; n < state.size; n++) {
            if (tableBench.row[n] != state.series[b][n]) {
                return n;
            }
        }
        return NONE;
    }

    // ---- the free table ----

    public int free(int i, int j) {
        if (!isWithinSize(i) || !isWithinSize(j)) {
            return NONE;
        }
        return state.free[i][j];
    }

    public int set(int i, int j, int v) {
        if (!isWithinSize(i) || !isWithinSize(j) || j > i) {
            return NONE;
        }
        history.keep(state);
        state.free[i][j] = Math.floorMod(v, PRIME);
        return state.free[i][j];
    }

    public int lay(int table) {
        if (!isTable(table)) {
            return NONE;
        }
        history.keep(state);
        tableBench.layEntries(state.tables[table], state.size, state.free);
        return tableBench.kindsOf(state.tables[table], state.size);
    }

    public int unlike() {
        if (state.size == 0) {
            return NO_SIZE;
        }
        return tableBench.recognise(state.free, state.size);
    }

    public int rebuild(int to) {
        if (!isTable(to) || tableBench.recognise(state.free, state.size) != NONE) {
            return NONE;
        }
        return landTable(to);
    }

    // ---- acts and images ----

    public int drawn(int n, int seed) {
        if (n < 1 || n > MOST_DEEDS) {
            return NONE;
        }
        // Without SIZE a DEED does nothing, and the seed is seen no more after the call.
        if (state.size == 0) {
            return 0;
        }
        history.keep(state);
        int s = seed;
        for (int deed = 0; deed < n; deed++) {
            s = nextSeed(s);
            int series = drawOf(s, SERIES_PLACES);
            s = nextSeed(s);
            int i = drawOf(s, state.size);
            s = nextSeed(s);
            state.series[series][i] = Math.floorMod(drawOf(s, 19) - 9, PRIME);
        }
        return state.sumOfSeries();
    }

    public int undo() {
        if (history.kept == 0) {
            return NONE;
        }
        history.takeBack(state);
        return history.kept;
    }

    public boolean image(int k) {
        if (k < 0 || k >= IMAGE_PLACES) {
            return false;
        }
        images[k].copyFrom(state);
        imageKept[k] = true;
        return true;
    }

    public boolean restore(int k) {
        if (k < 0 || k >= IMAGE_PLACES || !imageKept[k]) {
            return false;
        }
        state.copyFrom(images[k]);
        history.forget();
        return true;
    }

    // ---- what the calls above share ----

    private boolean isSeries(int place) {
        return state.size > 0 && place >= 0 && place < SERIES_PLACES;
    }

    private boolean isTable(int place) {
        return state.size > 0 && place >= 0 && place < TABLE_PLACES;
    }

    private boolean isWithinSize(int i) {
        return i >= 0 && i < state.size;
    }

    private boolean isWithinProduction(int i) {
        return i >= 0 && i < state.size - 1;
    }

    private int landSeries(int[] row, int to) {
        history.keep(state);
        System.arraycopy(row, 0, state.series[to], 0, state.size);
        return state.series[to][state.size - 1];
    }

    private int landTable(int to) {
        history.keep(state);
        state.tables[to].copyFrom(tableBench.result);
        return tableBench.entryOf(state.tables[to], state.size - 1, 1, state.size);
    }

    private static int nextSeed(int s) {
        return s * 1103515245 + 12345;
    }

    private static int drawOf(int s, int n) {
        return n > 0 ? (s >>> 8) % n : 0;
    }

    /** The bytes that were fed. */
    private static final class Tape {
        final byte[] bytes = new byte[TAPE_ROOM];
        int length;

        Tape() {
        }

        void addFourBytes(int number) {
            for (int shift = 24; shift >= 0 && length < TAPE_ROOM; shift -= 8) {
                bytes[length] = (byte) (number >>> shift);
                length++;
            }
        }
    }

    /**
     * Reckoning with rows of coefficients modulo PRIME; of a row the first 'size' ones count. What
     * changes a row in place must not be given the same row as its second one.
     */
    private static final class Rows {
        private static final int BITS_OF_PRIME = 20;

        private Rows() {
        }

        // By Fermat's theorem, so that no number is ever a divisor of the machine's.
        static int inverse(int n) {
            long answer = 1;
            long square = n;
            for (int bit = 0; bit < BITS_OF_PRIME; bit++) {
                if (((PRIME - 2) >> bit & 1) != 0) {
                    answer = answer * square % PRIME;
                }
                square = square * square % PRIME;
            }
            return (int) answer;
        }

        static int product(int a, int b) {
            return (int) ((long) a * b % PRIME);
        }

        static int difference(int a, int b) {
            return a >= b ? a - b : a - b + PRIME;
        }

        static void becomeNumber(int[] row, int number) {
            Arrays.fill(row, 0);
            row[0] = number;
        }

        static void add(int[] row, int[] more, int size) {
            for (int i = 0; i < size; i++) {
                row[i] = (row[i] + more[i]) % PRIME;
            }
        }

        static void subtract(int[] row, int[] less, int size) {
            for (int i = 0; i < size; i++) {
                row[i] = difference(row[i], less[i]);
            }
        }

        // From the last one down: those ahead, which the later ones need, are still the old ones.
        static void multiply(int[] row, int[] by, int size) {
            for (int i = size - 1; i >= 0; i--) {
                row[i] = coefficient(row, by, i);
            }
        }

        static int coefficient(int[] a, int[] b, int i) {
            long sum = 0;
            for (int k = 0; k <= i; k++) {
                sum += (long) a[k] * b[i - k];
            }
            return (int) (sum % PRIME);
        }

        // From the first one up: those ahead are coefficients of the quotient by then.
        static void divide(int[] row, int[] by, int size) {
            int inverse = inverse(by[0]);
            for (int i = 0; i < size; i++) {
                long sum = 0;
                for (int k = 0; k < i; k++) {
                    sum += (long) row[k] * by[i - k];
                }
                row[i] = product(difference(row[i], (int) (sum % PRIME)), inverse);
            }
        }

        /** outer(inner); out is a row of its own. Coefficient 0 of inner is 0. */
        static void insert(int[] outer, int[] inner, int size, int[] out) {
            Arrays.fill(out, 0);
            for (int k = size - 1; k >= 0; k--) {
                // inner begins with 0 and k times more is multiplied by it: what lies beyond goes.
                multiply(out, inner, size - k);
                out[0] = outer[k];
            }
        }

        static void oneAhead(int[] row, int size, int[] out) {
            for (int i = 0; i < size - 1; i++) {
                out[i] = row[i + 1];
            }
            out[size - 1] = 0;
        }

        static boolean isOne(int[] row, int size) {
            return row[0] == 1 && isZeroFrom(row, 1, size);
        }

        static boolean isT(int[] row, int size) {
            return row[0] == 0 && row[1] == 1 && isZeroFrom(row, 2, size);
        }

        static boolean isZeroFrom(int[] row, int first, int size) {
            for (int i = first; i < size; i++) {
                if (row[i] != 0) {
                    return false;
                }
            }
            return true;
        }

        static boolean canBeReversed(int[] row) {
            return row[0] == 0 && row[1] != 0;
        }

        static boolean makeTable(int[] g, int[] f) {
            return g[0] != 0 && canBeReversed(f);
        }
    }

    /** A TABLE: its two series alone, of which all entries come. */
    private static final class Table {
        final int[] g = new int[LARGEST_SIZE];
        final int[] f = new int[LARGEST_SIZE];

        Table() {
            g[0] = 1;
            f[1] = 1;
        }

        void becomeOne() {
            Rows.becomeNumber(g, 1);
            Rows.becomeNumber(f, 0);
            f[1] = 1;
        }

        void become(int[] newG, int[] newF) {
            System.arraycopy(newG, 0, g, 0, LARGEST_SIZE);
            System.arraycopy(newF, 0, f, 0, LARGEST_SIZE);
        }

        void copyFrom(Table other) {
            become(other.g, other.f);
        }
    }

    /** All that acts change and images keep. */
    private static final class State {
        final int[][] series = new int[SERIES_PLACES][LARGEST_SIZE];
        final Table[] tables = new Table[TABLE_PLACES];
        final int[][] free = new int[LARGEST_SIZE][LARGEST_SIZE];
        int size;

        State() {
            for (int place = 0; place < TABLE_PLACES; place++) {
                tables[place] = new Table();
            }
        }

        void becomeAsAtFirst() {
            size = 0;
            for (int place = 0; place < SERIES_PLACES; place++) {
                Arrays.fill(series[place], 0);
            }
            for (int place = 0; place < TABLE_PLACES; place++) {
                tables[place].becomeOne();
            }
            for (int i = 0; i < LARGEST_SIZE; i++) {
                Arrays.fill(free[i], 0);
            }
        }

        void copyFrom(State other) {
            size = other.size;
            for (int place = 0; place < SERIES_PLACES; place++) {
                System.arraycopy(other.series[place], 0, series[place], 0, LARGEST_SIZE);
            }
            for (int place = 0; place < TABLE_PLACES; place++) {
                tables[place].copyFrom(other.tables[place]);
            }
            for (int i = 0; i < LARGEST_SIZE; i++) {
                System.arraycopy(other.free[i], 0, free[i], 0, LARGEST_SIZE);
            }
        }

        int sumOfSeries() {
            int sum = 0;
            for (int place = 0; place < SERIES_PLACES; place++) {
                for (int i = 0; i < size; i++) {
                    sum = (sum + series[place][i]) % PRIME;
                }
            }
            return sum;
        }
    }

    /** What was ahead of each of the latest acts, in a ring whose oldest one goes first. */
    private static final class History {
        final State[] ring = new State[ACTS_KEPT];
        int kept;
        int next;

        History() {
            for (int k = 0; k < ACTS_KEPT; k++) {
                ring[k] = new State();
            }
        }

        void keep(State state) {
            ring[next].copyFrom(state);
            next = (next + 1) % ACTS_KEPT;
            kept = Math.min(kept + 1, ACTS_KEPT);
        }

        void takeBack(State state) {
            if (kept > 0) {
                next = (next + ACTS_KEPT - 1) % ACTS_KEPT;
                state.copyFrom(ring[next]);
                kept--;
            }
        }

        void forget() {
            kept = 0;
        }
    }

    /** Reads the tape into a draft, so that a FAULT leaves the state alone. */
    private static final class Reader {
        private static final int NO_TOKEN = 0;
        private static final int THE_END = 1;
        private static final int NUMBER = 2;
        private static final int SEMICOLON = 3;
        private static final int MINUS = 4;
        private static final int WORD_SIZE = 5;
        private static final int WORD_SERIES = 6;
        private static final int WORD_OVER = 7;
        private static final int WORD_TABLE = 8;

        private static final int CANNOT_COME = 1;
        private static final int WRONG_NUMBER = 2;
        private static final int TOO_MANY = 3;
        private static final int MAKES_NO_TABLE = 4;

        final State draft = new State();
        final Tape tape = new Tape();
        final int[] divisor = new int[LARGEST_SIZE];
        int place;
        int token;
        int tokenPlace;
        int number;
        int lines;
        int seriesTold;
        int tablesTold;
        int faultKind;
        int faultPlace;

        Reader() {
        }

        boolean readText() {
            draft.becomeAsAtFirst();
            place = 0;
            lines = 0;
            seriesTold = 0;
            tablesTold = 0;
            faultKind = 0;
            faultPlace = 0;
            step();
            if (token == THE_END) {
                return true;
            }
            if (!readSizeLine()) {
                return false;
            }
            for (lines = 1; lines < TEXT_ROOM && token != THE_END; lines++) {
                if (token != WORD_SERIES && token != WORD_TABLE) {
                    return refuse(CANNOT_COME);
                }
                if (!(token == WORD_SERIES ? readSeriesLine() : readTableLine())) {
                    return false;
                }
            }
            return true;
        }

        boolean readSizeLine() {
            if (token != WORD_SIZE) {
                return refuse(CANNOT_COME);
            }
            step();
            if (token != NUMBER) {
                return refuse(CANNOT_COME);
            }
            if (number < 2 || number > LARGEST_SIZE) {
                return refuse(WRONG_NUMBER);
            }
            draft.size = number;
            step();
            return readSemicolon();
        }

        boolean readSeriesLine() {
            if (seriesTold >= SERIES_PLACES) {
                return refuse(TOO_MANY);
            }
            int[] row = draft.series[seriesTold];
            step();
            if (!readSum(row, false)) {
                return false;
            }
            if (token == WORD_OVER) {
                step();
                if (!readSum(divisor, true)) {
                    return false;
                }
                Rows.divide(row, divisor, draft.size);
            }
            seriesTold++;
            return readSemicolon();
        }

        boolean readSum(int[] row, boolean firstNotZero) {
            Arrays.fill(row, 0);
            for (int i = 0; i < draft.size; i++) {
                // One number at least has to come; behind it the caller judges what else does.
                if (i > 0 && token != MINUS && token != NUMBER) {
                    return true;
                }
                boolean below = token == MINUS;
                if (below) {
                    step();
                }
                if (token != NUMBER) {
                    return refuse(CANNOT_COME);
                }
                if (i == 0 && firstNotZero && number == 0) {
                    return refuse(WRONG_NUMBER);
                }
                row[i] = below ? Rows.difference(0, number) : number;
                step();
            }
            return true;
        }

        boolean readTableLine() {
            if (tablesTold >= TABLE_PLACES) {
                return refuse(TOO_MANY);
            }
            step();
            if (!isToldSeries()) {
                return false;
            }
            int[] g = draft.series[number];
            step();
            if (!isToldSeries()) {
                return false;
            }
            int[] f = draft.series[number];
            if (!Rows.makeTable(g, f)) {
                return refuse(MAKES_NO_TABLE);
            }
            draft.tables[tablesTold].become(g, f);
            tablesTold++;
            step();
            return readSemicolon();
        }

        boolean isToldSeries() {
            if (token != NUMBER) {
                return refuse(CANNOT_COME);
            }
            if (number < 0 || number >= seriesTold) {
                return refuse(WRONG_NUMBER);
            }
            return true;
        }

        boolean readSemicolon() {
            if (token != SEMICOLON) {
                return refuse(CANNOT_COME);
            }
            step();
            return true;
        }

        boolean refuse(int kind) {
            faultKind = kind;
            faultPlace = tokenPlace;
            return false;
        }

        void step() {
            while (place < tape.length && isBlank(tape.bytes[place])) {
                place++;
            }
            tokenPlace = place;
            if (tape.length > TEXT_ROOM && place >= TEXT_ROOM) {
                tokenPlace = TEXT_ROOM;
                token = NO_TOKEN;
            } else if (place >= tape.length) {
                token = THE_END;
            } else if (tape.bytes[place] == ';') {
                token = SEMICOLON;
                place++;
            } else if (tape.bytes[place] == '-') {
                token = MINUS;
                place++;
            } else {
                readWordOrNumber();
            }
        }

        void readWordOrNumber() {
            int letters = 0;
            int digits = 0;
            number = 0;
            for (; place < tape.length; place++) {
                byte sign = tape.bytes[place];
                if (isDigit(sign)) {
                    digits++;
                    number = digits <= 3 ? number * 10 + sign - '0' : 0;
                } else if (isLetter(sign)) {
                    letters++;
                } else {
                    break;
                }
            }
            if (letters == 0 && digits >= 1 && digits <= 3) {
                token = NUMBER;
            } else if (isWord("size")) {
                token = WORD_SIZE;
            } else if (isWord("series")) {
                token = WORD_SERIES;
            } else if (isWord("over")) {
                token = WORD_OVER;
            } else if (isWord("table")) {
                token = WORD_TABLE;
            } else {
                // Another WORD can never come, so it need not be told from what is no TOKEN.
                token = NO_TOKEN;
            }
        }

        boolean isWord(String word) {
            if (place - tokenPlace != word.length()) {
                return false;
            }
            for (int i = 0; i < word.length(); i++) {
                if (tape.bytes[tokenPlace + i] != word.charAt(i)) {
                    return false;
                }
            }
            return true;
        }

        static boolean isBlank(byte sign) {
            return sign == 32 || sign == 10;
        }

        static boolean isDigit(byte sign) {
            return sign >= '0' && sign <= '9';
        }

        static boolean isLetter(byte sign) {
            return sign >= 'a' && sign <= 'z';
        }
    }

    /** What comes of one or two series, put down in 'result'. */
    private static final class SeriesBench {
        final int[] result = new int[LARGEST_SIZE];
        final int[] spare = new int[LARGEST_SIZE];
        final int[] quotient = new int[LARGEST_SIZE];

        SeriesBench() {
        }

        boolean combine(int[] a, int[] b, int how, int size) {
            System.arraycopy(a, 0, result, 0, LARGEST_SIZE);
            switch (how) {
                case 0:
                    Rows.add(result, b, size);
                    return true;
                case 1:
                    Rows.subtract(result, b, size);
                    return true;
                case 2:
                    Rows.multiply(result, b, size);
                    return true;
                case 3:
                    if (b[0] == 0) {
                        return false;
                    }
                    Rows.divide(result, b, size);
                    return true;
                case 4:
                    if (b[0] != 0) {
                        return false;
                    }
                    Rows.insert(a, b, size, result);
                    return true;
                default:
                    return false;
            }
        }

        boolean turnAbout(int[] a, int how, int size) {
            switch (how) {
                case 0:
                    System.arraycopy(a, 0, result, 1, size - 1);
                    result[0] = 0;
                    return true;
                case 1:
                    Rows.oneAhead(a, size, result);
                    return true;
                case 2:
                    differentiate(a, size);
                    return true;
                case 3:
                    integrate(a, size);
                    return true;
                case 4:
                    if (!Rows.canBeReversed(a)) {
                        return false;
                    }
                    reverse(a, size, result);
                    return true;
                case 5:
                    if (a[0] == 0) {
                        return false;
                    }
                    Rows.becomeNumber(result, 1);
                    Rows.divide(result, a, size);
                    return true;
                default:
                    return false;
            }
        }

        void differentiate(int[] a, int size) {
            for (int i = 1; i < size; i++) {
                result[i - 1] = Rows.product(a[i], i);
            }
            result[size - 1] = 0;
        }

        void integrate(int[] a, int size) {
            result[0] = 0;
            for (int i = 1; i < size; i++) {
                result[i] = Rows.product(a[i - 1], Rows.inverse(i));
            }
        }

        // By Lagrange: n times coefficient n is coefficient n - 1 of (t by a) to the power n. The
        // last coefficient of t by a is not known, and none is asked for.
        void reverse(int[] a, int size, int[] out) {
            Rows.oneAhead(a, size, spare);
            Rows.becomeNumber(quotient, 1);
            Rows.divide(quotient, spare, size);
            System.arraycopy(quotient, 0, spare, 0, size);
            out[0] = 0;
            for (int n = 1; n < size; n++) {
                out[n] = Rows.product(spare[n - 1], Rows.inverse(n));
                Rows.multiply(spare, quotient, size);
            }
        }

        void raiseTo(int[] a, int k, int size) {
            Rows.becomeNumber(result, 1);
            // The bits of k from the highest one down; 99 has seven.
            for (int bit = 6; bit >= 0; bit--) {
                System.arraycopy(result, 0, spare, 0, LARGEST_SIZE);
                Rows.multiply(result, spare, size);
                if ((k >> bit & 1) != 0) {
                    Rows.multiply(result, a, size);
                }
            }
        }
    }

    /** What comes of tables: tables in 'result', series in 'row'. */
    private static final class TableBench {
        final Table result = new Table();
        final Table second = new Table();
        final Table third = new Table();
        final int[] row = new int[LARGEST_SIZE];
        final int[] reversed = new int[LARGEST_SIZE];
        final int[] spare = new int[LARGEST_SIZE];
        final int[][] columns = new int[LARGEST_SIZE][LARGEST_SIZE];
        final int[][] otherColumns = new int[LARGEST_SIZE][LARGEST_SIZE];
        final SeriesBench seriesBench = new SeriesBench();

        TableBench() {
        }

        int entryOf(Table table, int i, int j, int size) {
            System.arraycopy(table.g, 0, row, 0, LARGEST_SIZE);
            for (int k = 0; k < j; k++) {
                Rows.multiply(row, table.f, size);
            }
            return row[i];
        }

        static void fillColumns(Table table, int size, int[][] out) {
            System.arraycopy(table.g, 0, out[0], 0, LARGEST_SIZE);
            for (int j = 1; j < size; j++) {
                System.arraycopy(out[j - 1], 0, out[j], 0, LARGEST_SIZE);
                Rows.multiply(out[j], table.f, size);
            }
        }

        static void multiply(Table s, Table t, int size, Table out) {
            Rows.insert(t.g, s.f, size, out.g);
            Rows.multiply(out.g, s.g, size);
            Rows.insert(t.f, s.f, size, out.f);
        }

        // The inverse of (g, f) is (1 by g(r), r), r the reverse of f.
        void invert(Table table, int size, Table out) {
            seriesBench.reverse(table.f, size, out.f);
            Rows.insert(table.g, out.f, size, spare);
            Rows.becomeNumber(out.g, 1);
            Rows.divide(out.g, spare, size);
        }

        void powerOf(Table table, int k, int size) {
            if (k < 0) {
                invert(table, size, second);
            } else {
                second.copyFrom(table);
            }
            result.becomeOne();
            for (int step = 0; step < Math.abs(k); step++) {
                multiply(result, second, size, third);
                result.copyFrom(third);
            }
        }

        boolean partOf(Table table, int what, int size) {
            switch (what) {
                case 0:
                    System.arraycopy(table.g, 0, row, 0, LARGEST_SIZE);
                    return true;
                case 1:
                    System.arraycopy(table.f, 0, row, 0, LARGEST_SIZE);
                    return true;
                case 2:
                    findA(table, size);
                    return true;
                case 3:
                    findZ(table, size);
                    return true;
                default:
                    return false;
            }
        }

        // With r the reverse of f, r for t in f = t A(f): A is t by r.
        void findA(Table table, int size) {
            seriesBench.reverse(table.f, size, reversed);
            Rows.oneAhead(reversed, size, spare);
            Rows.becomeNumber(row, 1);
            Rows.divide(row, spare, size);
            row[size - 1] = 0;
        }

        // Likewise r Z = 1 less g0 by g(r); both sides begin with 0 and go one place ahead.
        void findZ(Table table, int size) {
            seriesBench.reverse(table.f, size, reversed);
            Rows.insert(table.g, reversed, size, spare);
            Rows.becomeNumber(row, table.g[0]);
            Rows.divide(row, spare, size);
            for (int i = 1; i < size; i++) {
                row[i - 1] = Rows.difference(0, row[i]);
            }
            Rows.oneAhead(reversed, size, spare);
            Rows.divide(row, spare, size);
            row[size - 1] = 0;
        }

        // The sum of ENTRY(n, k) s_k is coefficient n of g s(f).
        void makeOf(Table table, int[] series, int size) {
            Rows.insert(series, table.f, size, row);
            Rows.multiply(row, table.g, size);
        }

        void sumRows(Table table, int how, int size) {
            fillColumns(table, size, columns);
            for (int n = 0; n < size; n++) {
                long sum = 0;
                for (int k = 0; k <= n; k++) {
                    sum += termOfSum(how, n, k);
                }
                row[n] = (int) (sum % PRIME);
            }
        }

        // For k no more than n.
        long termOfSum(int how, int n, int k) {
            switch (how) {
                case 1:
                    return k % 2 == 0 ? columns[k][n] : PRIME - columns[k][n];
                case 2:
                    return (long) columns[k][n] * k;
                case 3:
                    return columns[k][n - k];
                default:
                    return columns[k][n];
            }
        }

        // Column j of the production, from row 0 down; the table's diagonal has no 0 in it.
        int productionOf(Table table, int i, int j, int size) {
            fillColumns(table, size, columns);
            for (int r = 0; r <= i; r++) {
                long sum = 0;
                for (int k = 0; k < r; k++) {
                    sum += (long) columns[k][r] * row[k];
                }
                int rest = Rows.difference(columns[j][r + 1], (int) (sum % PRIME));
                row[r] = Rows.product(rest, Rows.inverse(columns[r][r]));
            }
            return row[i];
        }

        int kindsOf(Table table, int size) {
            int bits = 0;
            if (Rows.isT(table.f, size)) {
                bits |= 1;
            }
            if (Rows.isOne(table.g, size)) {
                bits |= 2;
            }
            if (isShifted(table, size)) {
                bits |= 4;
            }
            if (isDerivative(table, size)) {
                bits |= 8;
            }
            if (isChequered(table, size)) {
                bits |= 16;
            }
            multiply(table, table, size, second);
            if (Rows.isOne(second.g, size) && Rows.isT(second.f, size)) {
                bits |= 32;
            }
            return bits;
        }

        static boolean isShifted(Table table, int size) {
            for (int i = 1; i < size; i++) {
                if (table.f[i] != table.g[i - 1]) {
                    return false;
                }
            }
            return true;
        }

        static boolean isDerivative(Table table, int size) {
            for (int i = 1; i < size; i++) {
                if (table.g[i - 1] != Rows.product(table.f[i], i)) {
                    return false;
                }
            }
            return true;
        }

        boolean isChequered(Table table, int size) {
            fillColumns(table, size, columns);
            for (int j = 0; j < size; j++) {
                for (int i = j + 1; i < size; i += 2) {
                    if (columns[j][i] != 0) {
                        return false;
                    }
                }
            }
            return true;
        }

        int firstDifference(Table s, Table t, int size) {
            fillColumns(s, size, columns);
            fillColumns(t, size, otherColumns);
            for (int i = 0; i < size; i++) {
                for (int j = 0; j <= i; j++) {
                    if (columns[j][i] != otherColumns[j][i]) {
                        return 10 * i + j;
                    }
                }
            }
            return NONE;
        }

        int firstOfChangedPlaces(Table s, Table t, int size) {
            multiply(s, t, size, second);
            multiply(t, s, size, third);
            return firstDifference(second, third, size);
        }

        void layEntries(Table table, int size, int[][] free) {
            fillColumns(table, size, columns);
            for (int i = 0; i < size; i++) {
                for (int j = 0; j <= i; j++) {
                    free[i][j] = columns[j][i];
                }
            }
        }

        /** What unlike() answers with SIZE; the TABLE of columns 0 and 1 comes to 'result'. */
        int recognise(int[][] free, int size) {
            if (free[0][0] == 0 || free[1][1] == 0) {
                return COLUMNS_MAKE_NO_TABLE;
            }
            result.becomeOne();
            for (int i = 0; i < size; i++) {
                result.g[i] = free[i][0];
                result.f[i] = free[i][1];
            }
            Rows.divide(result.f, result.g, size);
            fillColumns(result, size, columns);
            for (int i = 0; i < size; i++) {
                for (int j = 0; j <= i; j++) {
                    if (free[i][j] != columns[j][i]) {
                        return 10 * i + j;
                    }
                }
            }
            return NONE;
        }
    }
}
