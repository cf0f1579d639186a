import java.nio.charset.StandardCharsets;
import java.util.NoSuchElementException;

/** What the tests share: comparing answers, feeding a text, ending with the right exit code. */
final class Check {
    static final int P = 1000003;
    static final int NONE = SeriesTables.NONE;
    /** Stands for a NoSuchElementException among answers. */
    static final int THROWN = Integer.MIN_VALUE;

    private int wrong;
    private int looked;

    void same(String what, long got, long want) {
        looked++;
        if (got != want) {
            wrong++;
            System.out.println(what + ": answered " + got + ", due is " + want);
        }
    }

    void same(String what, boolean got, boolean want) {
        same(what, got ? 1 : 0, want ? 1 : 0);
    }

    void row(String what, SeriesTables x, int series, long... want) {
        for (int i = 0; i < want.length; i++) {
            same(what + ", coefficient " + i, x.at(series, i), Math.floorMod(want[i], (long) P));
        }
    }

    int wrong() {
        return wrong;
    }

    int looked() {
        return looked;
    }

    void finish() {
        System.out.println(looked + " answers looked at, " + wrong + " wrong");
        if (wrong != 0) {
            System.exit(1);
        }
    }

    static int quotient(int n, int by) {
        for (long k = 0; k < P; k++) {
            if (k * by % P == n) {
                return (int) k;
            }
        }
        throw new IllegalArgumentException();
    }

    static int entry(SeriesTables x, int table, int i, int j) {
        try {
            return x.entry(table, i, j);
        } catch (NoSuchElementException e) {
            return THROWN;
        }
    }

    static int production(SeriesTables x, int table, int i, int j) {
        try {
            return x.production(table, i, j);
        } catch (NoSuchElementException e) {
            return THROWN;
        }
    }

    /** Makes the tape hold just these bytes; at most 540 can be told so. */
    static void tape(SeriesTables x, byte[] bytes) {
        x.end(0);
        int whole = (bytes.length + 19) / 20 * 20;
        for (int at = 0; at < whole; at += 20) {
            int[] five = new int[5];
            for (int i = 0; i < 20; i++) {
                int sign = at + i < bytes.length ? bytes[at + i] & 255 : 0;
                five[i / 4] = five[i / 4] << 8 | sign;
            }
            x.feed(five[0], five[1], five[2], five[3], five[4]);
        }
        if (!x.end(bytes.length)) {
            throw new IllegalStateException("the tape did not take the bytes");
        }
    }

    /** The text with blanks behind it, so many bytes in all. */
    static String filled(String text, int length) {
        return text + " ".repeat(length - text.length());
    }

    static int text(SeriesTables x, String text) {
        tape(x, text.getBytes(StandardCharsets.ISO_8859_1));
        return x.text();
    }

    static SeriesTables told(String text) {
        SeriesTables x = new SeriesTables();
        if (text(x, text) < 0) {
            throw new IllegalStateException("no TEXT: " + text);
        }
        return x;
    }

    void fault(String text, int place, int kind) {
        SeriesTables x = new SeriesTables();
        String shown = text.length() > 60 ? text.substring(0, 60) + ".." : text;
        same("text() of '" + shown + "'", text(x, text), -1 - place);
        same("fault() of '" + shown + "'", x.fault(), kind);
    }

    void lines(String text, int lines) {
        SeriesTables x = new SeriesTables();
        same("text() of '" + text + "'", text(x, text), lines);
        same("fault() of '" + text + "'", x.fault(), 0);
    }
}
