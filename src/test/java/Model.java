import java.nio.charset.StandardCharsets;
import java.util.ArrayDeque;
import java.util.ArrayList;
import java.util.Arrays;
import java.util.Deque;
import java.util.List;
import java.util.regex.Matcher;
import java.util.regex.Pattern;

/**
 * A second program for the same document, told as plainly as can be and by other ways of reckoning:
 * a table is the matrix of its entries, and what is asked for is found by solving for it.
 */
final class Model {
    static final long P = 1000003;
    static final int NONE = -1;
    static final int THROWN = Check.THROWN;

    /** All that is kept and undone. */
    private static final class All {
        int size;
        long[][] series = new long[6][0];
        long[][][] tables = new long[4][0][0];
        long[][] free = new long[0][0];

        All(int size) {
            this.size = size;
            series = new long[6][size];
            for (int k = 0; k < 4; k++) {
                tables[k] = one(size);
            }
            free = new long[size][size];
        }

        All copy() {
            All c = new All(size);
            for (int k = 0; k < 6; k++) {
                c.series[k] = series[k].clone();
            }
            for (int k = 0; k < 4; k++) {
                c.tables[k] = copyOf(tables[k]);
            }
            c.free = copyOf(free);
            return c;
        }
    }

    private byte[] tape = new byte[0];
    private All all = new All(0);
    private final Deque<All> acts = new ArrayDeque<>();
    private final All[] images = new All[2];
    private int fault;
    private int told1;
    private int told2;

    // ---- numbers, series, matrices ----

    static long mod(long v) {
        return ((v % P) + P) % P;
    }

    static long inverse(long n) {
        // Euclid's way.
        long a = n;
        long b = P;
        long x = 1;
        long y = 0;
        while (b != 0) {
            long q = a / b;
            long r = a - q * b;
            a = b;
            b = r;
            long z = x - q * y;
            x = y;
            y = z;
        }
        return mod(x * a);
    }

    static long[][] one(int n) {
        long[][] m = new long[n][n];
        for (int i = 0; i < n; i++) {
            m[i][i] = 1;
        }
        return m;
    }

    static long[][] copyOf(long[][] m) {
        long[][] c = new long[m.length][];
        for (int i = 0; i < m.length; i++) {
            c[i] = m[i].clone();
        }
        return c;
    }

    static long[] mul(long[] a, long[] b) {
        long[] c = new long[a.length];
        for (int i = 0; i < a.length; i++) {
            for (int j = 0; i + j < a.length; j++) {
                c[i + j] = (c[i + j] + a[i] * b[j]) % P;
            }
        }
        return c;
    }

    static long[] unit(int n, int at) {
        long[] u = new long[n];
        u[at] = 1;
        return u;
    }

    static long[] pow(long[] a, int k) {
        long[] c = unit(a.length, 0);
        for (int i = 0; i < k; i++) {
            c = mul(c, a);
        }
        return c;
    }

    /** x with b x = a, one coefficient after the other. */
    static long[] div(long[] a, long[] b) {
        long[] x = new long[a.length];
        for (int i = 0; i < a.length; i++) {
            x[i] = mod((a[i] - mul(x, b)[i]) * inverse(b[0]));
        }
        return x;
    }

    static long[] insert(long[] a, long[] b) {
        long[] c = new long[a.length];
        for (int k = 0; k < a.length; k++) {
            long[] p = pow(b, k);
            for (int i = 0; i < a.length; i++) {
                c[i] = (c[i] + a[k] * p[i]) % P;
            }
        }
        return c;
    }

    static long[] reverse(long[] a) {
        long[] b = new long[a.length];
        for (int i = 1; i < a.length; i++) {
            long is = insert(a, b)[i];
            b[i] = mod(((i == 1 ? 1 : 0) - is) * inverse(a[1]));
        }
        return b;
    }

    static long[][] matrixOf(long[] g, long[] f) {
        int n = g.length;
        long[][] m = new long[n][n];
        for (int j = 0; j < n; j++) {
            long[] column = mul(g, pow(f, j));
            for (int i = 0; i < n; i++) {
                m[i][j] = column[i];
            }
        }
        return m;
    }

    static long[][] mul(long[][] a, long[][] b) {
        int n = a.length;
        long[][] c = new long[n][n];
        for (int i = 0; i < n; i++) {
            for (int j = 0; j < n; j++) {
                for (int k = 0; k < n; k++) {
                    c[i][j] = (c[i][j] + a[i][k] * b[k][j]) % P;
                }
            }
        }
        return c;
    }

    /** The inverse of a lower triangular matrix. */
    static long[][] inverse(long[][] m) {
        int n = m.length;
        long[][] x = new long[n][n];
        for (int j = 0; j < n; j++) {
            long[] column = solve(m, unit(n, j));
            for (int i = 0; i < n; i++) {
                x[i][j] = column[i];
            }
        }
        return x;
    }

    /** x with m x = v, m lower triangular. */
    static long[] solve(long[][] m, long[] v) {
        long[] x = new long[v.length];
        for (int i = 0; i < v.length; i++) {
            long rest = v[i];
            for (int k = 0; k < i; k++) {
                rest -= m[i][k] * x[k] % P;
            }
            x[i] = mod(mod(rest) * inverse(m[i][i]));
        }
        return x;
    }

    static long[] column(long[][] m, int j) {
        long[] c = new long[m.length];
        for (int i = 0; i < m.length; i++) {
            c[i] = m[i][j];
        }
        return c;
    }

    static long[] gOf(long[][] m) {
        return column(m, 0);
    }

    static long[] fOf(long[][] m) {
        return div(column(m, 1), column(m, 0));
    }

    // ---- the tape ----

    int feed(int... five) {
        if (tape.length + 20 > 540) {
            return NONE;
        }
        java.nio.ByteBuffer more = java.nio.ByteBuffer.allocate(tape.length + 20).put(tape);
        for (int number : five) {
            more.putInt(number);
        }
        tape = more.array();
        return tape.length;
    }

    int end(int n) {
        if (n < 0 || n > tape.length) {
            return 0;
        }
        tape = Arrays.copyOf(tape, n);
        return 1;
    }

    private static final Pattern TOKEN = Pattern.compile("[ \n]*([a-z0-9]+|[^ \n])");

    private static final class Fault extends Exception {
        private static final long serialVersionUID = 1;
        final int kind;
        final int place;

        Fault(int kind, int place) {
            this.kind = kind;
            this.place = place;
        }
    }

    /** The tokens of a text as a list; the last one is "" at the end. */
    private List<String> tokens;
    private List<Integer> places;
    private int next;

    private void split() {
        String text = new String(tape, StandardCharsets.ISO_8859_1);
        tokens = new ArrayList<>();
        places = new ArrayList<>();
        Matcher matcher = TOKEN.matcher(text);
        while (matcher.find()) {
            if (tape.length > 500 && matcher.start(1) >= 500) {
                break;
            }
            tokens.add(matcher.group(1));
            places.add(matcher.start(1));
        }
        tokens.add("");
        places.add(Math.min(tape.length, 500));
        next = 0;
    }

    private String peek() {
        return tokens.get(next);
    }

    private void take(String word) throws Fault {
        if (!peek().equals(word)) {
            throw new Fault(1, places.get(next));
        }
        next++;
    }

    private int number(int least, int most) throws Fault {
        if (!peek().matches("[0-9]{1,3}")) {
            throw new Fault(1, places.get(next));
        }
        int value = Integer.parseInt(peek());
        if (value < least || value > most) {
            throw new Fault(2, places.get(next));
        }
        next++;
        return value;
    }

    private long[] sum(int size, boolean behindOver) throws Fault {
        long[] row = new long[size];
        int i = 0;
        do {
            boolean minus = peek().equals("-");
            if (minus) {
                next++;
            }
            int value = number(i == 0 && behindOver ? 1 : 0, 999);
            row[i++] = mod(minus ? -value : value);
        } while (i < size && (peek().equals("-") || peek().matches("[0-9]{1,3}")));
        return row;
    }

    int text() {
        split();
        boolean tooLong = tape.length > 500;
        tape = new byte[0];
        fault = 0;
        try {
            int lines = 0;
            int series = 0;
            int tables = 0;
            All draft = new All(0);
            if (!peek().isEmpty()) {
                take("size");
                draft = new All(number(2, 10));
                take(";");
                lines = 1;
            }
            while (!peek().isEmpty()) {
                if (peek().equals("series")) {
                    if (series == 6) {
                        throw new Fault(3, places.get(next));
                    }
                    next++;
                    long[] row = sum(draft.size, false);
                    if (peek().equals("over")) {
                        next++;
                        row = div(row, sum(draft.size, true));
                    }
                    draft.series[series++] = row;
                } else {
                    if (peek().equals("table") && tables == 4) {
                        throw new Fault(3, places.get(next));
                    }
                    take("table");
                    long[] g = draft.series[number(0, series - 1)];
                    long[] f = draft.series[number(0, series - 1)];
                    if (g[0] == 0 || f[0] != 0 || f[1] == 0) {
                        throw new Fault(4, places.get(next - 1));
                    }
                    draft.tables[tables++] = matrixOf(g, f);
                }
                take(";");
                lines++;
            }
            if (tooLong) {
                throw new Fault(1, 500);
            }
            all = draft;
            told1 = series;
            told2 = tables;
            acts.clear();
            return lines;
        } catch (Fault f) {
            fault = f.kind;
            return -1 - f.place;
        }
    }

    int fault() {
        return fault;
    }

    int now(int what) {
        int[] answers = {all.size, told1, told2, acts.size(), tape.length};
        return what >= 0 && what < 5 ? answers[what] : NONE;
    }

    // ---- series and tables ----

    private boolean series(int... places) {
        for (int k : places) {
            if (k < 0 || k > 5) {
                return false;
            }
        }
        return all.size > 0;
    }

    private boolean tables(int... places) {
        for (int k : places) {
            if (k < 0 || k > 3) {
                return false;
            }
        }
        return all.size > 0;
    }

    private boolean within(int least, int v, int most) {
        return v >= least && v <= most;
    }

    private void act() {
        acts.addLast(all.copy());
        if (acts.size() > 8) {
            acts.removeFirst();
        }
    }

    private int land(long[] row, int to) {
        act();
        all.series[to] = row.clone();
        return (int) row[all.size - 1];
    }

    private int land(long[][] table, int to) {
        act();
        all.tables[to] = copyOf(table);
        return (int) table[all.size - 1][1];
    }

    int at(int s, int i) {
        return series(s) && within(0, i, all.size - 1) ? (int) all.series[s][i] : NONE;
    }

    int put(int s, int i, int v) {
        if (!series(s) || !within(0, i, all.size - 1)) {
            return NONE;
        }
        act();
        all.series[s][i] = mod(v);
        return (int) mod(v);
    }

    int make(int a, int b, int how, int to) {
        if (!series(a, b, to) || !within(0, how, 4)) {
            return NONE;
        }
        long[] x = all.series[a];
        long[] y = all.series[b];
        if (how == 3 && y[0] == 0 || how == 4 && y[0] != 0) {
            return NONE;
        }
        if (how == 2) {
            return land(mul(x, y), to);
        }
        if (how == 3) {
            return land(div(x, y), to);
        }
        if (how == 4) {
            return land(insert(x, y), to);
        }
        long[] c = new long[all.size];
        for (int i = 0; i < all.size; i++) {
            c[i] = mod(how == 0 ? x[i] + y[i] : x[i] - y[i]);
        }
        return land(c, to);
    }

    int turn(int a, int how, int to) {
        if (!series(a, to) || !within(0, how, 5)) {
            return NONE;
        }
        int n = all.size;
        long[] x = all.series[a];
        if (how == 4 && (x[0] != 0 || x[1] == 0) || how == 5 && x[0] == 0) {
            return NONE;
        }
        if (how == 4) {
            return land(reverse(x), to);
        }
        if (how == 5) {
            return land(div(unit(n, 0), x), to);
        }
        long[] c = new long[n];
        for (int i = 0; i < n; i++) {
            if (how == 0 && i + 1 < n) {
                c[i + 1] = x[i];
            } else if (how == 1 && i > 0) {
                c[i - 1] = x[i];
            } else if (how == 2 && i > 0) {
                c[i - 1] = x[i] * i % P;
            } else if (how == 3 && i + 1 < n) {
                c[i + 1] = x[i] * inverse(i + 1) % P;
            }
        }
        return land(c, to);
    }

    int raise(int a, int k, int to) {
        return series(a, to) && within(0, k, 99) ? land(pow(all.series[a], k), to) : NONE;
    }

    int pair(int g, int f, int to) {
        if (!series(g, f) || !tables(to)) {
            return NONE;
        }
        long[] x = all.series[g];
        long[] y = all.series[f];
        return x[0] == 0 || y[0] != 0 || y[1] == 0 ? NONE : land(matrixOf(x, y), to);
    }

    int entry(int t, int i, int j) {
        boolean there = tables(t) && within(0, i, all.size - 1) && within(0, j, all.size - 1);
        return there ? (int) all.tables[t][i][j] : THROWN;
    }

    int times(int s, int t, int to) {
        return tables(s, t, to) ? land(mul(all.tables[s], all.tables[t]), to) : NONE;
    }

    int power(int t, int k, int to) {
        if (!tables(t, to) || !within(-9, k, 9)) {
            return NONE;
        }
        long[][] by = k < 0 ? inverse(all.tables[t]) : all.tables[t];
        long[][] m = one(all.size);
        for (int i = 0; i < Math.abs(k); i++) {
            m = mul(m, by);
        }
        return land(m, to);
    }

    /** x but for its last coefficient, with x(f) t = v. */
    private static long[] toldByRowAhead(long[] f, long[] v) {
        int n = f.length;
        long[] ahead = Arrays.copyOf(Arrays.copyOfRange(v, 1, n), n);
        long[] x = solve(matrixOf(unit(n, 0), f), ahead);
        x[n - 1] = 0;
        return x;
    }

    int part(int t, int what, int to) {
        if (!tables(t) || !series(to) || !within(0, what, 3)) {
            return NONE;
        }
        long[] g = gOf(all.tables[t]);
        long[] f = fOf(all.tables[t]);
        long[] c = what == 0 ? g : f;
        if (what == 2) {
            c = toldByRowAhead(f, f);
        } else if (what == 3) {
            long[] rest = new long[all.size];
            rest[0] = g[0];
            rest = div(rest, g);
            for (int i = 0; i < all.size; i++) {
                rest[i] = mod((i == 0 ? 1 : 0) - rest[i]);
            }
            c = toldByRowAhead(f, rest);
        }
        land(c, to);
        return (int) c[0];
    }

    private long[] made(int t, long[] s) {
        long[] c = new long[all.size];
        for (int n = 0; n < all.size; n++) {
            for (int k = 0; k < all.size; k++) {
                c[n] = (c[n] + all.tables[t][n][k] * s[k]) % P;
            }
        }
        return c;
    }

    int apply(int t, int s, int to) {
        return tables(t) && series(s, to) ? land(made(t, all.series[s]), to) : NONE;
    }

    int sums(int t, int how, int to) {
        if (!tables(t) || !series(to) || !within(0, how, 3)) {
            return NONE;
        }
        long[] c = new long[all.size];
        for (int n = 0; n < all.size; n++) {
            for (int k = 0; k < all.size; k++) {
                int row = how == 3 ? n - k : n;
                long by = how == 1 && k % 2 == 1 ? -1 : how == 2 ? k : 1;
                c[n] = row < 0 ? c[n] : mod(c[n] + by * all.tables[t][row][k]);
            }
        }
        return land(c, to);
    }

    int production(int t, int i, int j) {
        if (!tables(t) || !within(0, i, all.size - 2) || !within(0, j, all.size - 2)) {
            return THROWN;
        }
        int n = all.size - 1;
        long[][] upper = new long[n][n];
        long[][] lower = new long[n][n];
        for (int r = 0; r < n; r++) {
            for (int c = 0; c < n; c++) {
                upper[r][c] = all.tables[t][r][c];
                lower[r][c] = all.tables[t][r + 1][c];
            }
        }
        return (int) mul(inverse(upper), lower)[i][j];
    }

    int kinds(int t) {
        if (!tables(t)) {
            return NONE;
        }
        int n = all.size;
        long[][] m = all.tables[t];
        long[] g = gOf(m);
        long[] f = fOf(m);
        int bits = Arrays.equals(f, unit(n, 1)) ? 1 : 0;
        bits += Arrays.equals(g, unit(n, 0)) ? 2 : 0;
        bits += Arrays.equals(f, mul(g, unit(n, 1))) ? 4 : 0;
        boolean eight = true;
        boolean sixteen = true;
        for (int i = 0; i < n; i++) {
            eight &= i == n - 1 || g[i] == f[i + 1] * (i + 1) % P;
            for (int j = 0; j < n; j++) {
                sixteen &= (i + j) % 2 == 0 || m[i][j] == 0;
            }
        }
        bits += (eight ? 8 : 0) + (sixteen ? 16 : 0);
        return bits + (Arrays.deepEquals(mul(m, m), one(n)) ? 32 : 0);
    }

    private static int first(long[][] a, long[][] b) {
        for (int i = 0; i < a.length; i++) {
            for (int j = 0; j < a.length; j++) {
                if (a[i][j] != b[i][j]) {
                    return 10 * i + j;
                }
            }
        }
        return NONE;
    }

    int differ(int s, int t, int how) {
        if (!tables(s, t) || !within(0, how, 1)) {
            return NONE;
        }
        long[][] a = all.tables[s];
        long[][] b = all.tables[t];
        return how == 0 ? first(a, b) : first(mul(a, b), mul(b, a));
    }

    int fails(int t, int a, int b) {
        if (!tables(t) || !series(a, b)) {
            return NONE;
        }
        return Arrays.mismatch(made(t, all.series[a]), all.series[b]);
    }

    // ---- the free table ----

    int free(int i, int j) {
        return within(0, i, all.size - 1) && within(0, j, all.size - 1) ? (int) all.free[i][j] : NONE;
    }

    int set(int i, int j, int v) {
        if (!within(0, i, all.size - 1) || !within(0, j, i)) {
            return NONE;
        }
        act();
        all.free[i][j] = mod(v);
        return (int) mod(v);
    }

    int lay(int t) {
        if (!tables(t)) {
            return NONE;
        }
        act();
        all.free = copyOf(all.tables[t]);
        return kinds(t);
    }

    int unlike() {
        if (all.size == 0) {
            return 101;
        }
        if (all.free[0][0] == 0 || all.free[1][1] == 0) {
            return 100;
        }
        return first(all.free, matrixOf(gOf(all.free), fOf(all.free)));
    }

    int rebuild(int to) {
        return tables(to) && unlike() == NONE ? land(all.free, to) : NONE;
    }

    // ---- acts ----

    int drawn(int n, int seed) {
        if (!within(1, n, 60)) {
            return NONE;
        }
        if (all.size == 0) {
            return 0;
        }
        act();
        long s = seed;
        for (int deed = 0; deed < 3 * n; deed += 3) {
            int[] draws = {6, all.size, 19};
            for (int k = 0; k < 3; k++) {
                s = (s * 1103515245L + 12345) & 0xffffffffL;
                draws[k] = (int) ((s >> 8) % draws[k]);
            }
            all.series[draws[0]][draws[1]] = mod(draws[2] - 9);
        }
        long sum = 0;
        for (long[] row : all.series) {
            sum += Arrays.stream(row).sum();
        }
        return (int) mod(sum);
    }

    int undo() {
        if (acts.isEmpty()) {
            return NONE;
        }
        all = acts.removeLast();
        return acts.size();
    }

    int image(int k) {
        if (!within(0, k, 1)) {
            return 0;
        }
        images[k] = all.copy();
        return 1;
    }

    int restore(int k) {
        if (!within(0, k, 1) || images[k] == null) {
            return 0;
        }
        all = images[k].copy();
        acts.clear();
        return 1;
    }
}
