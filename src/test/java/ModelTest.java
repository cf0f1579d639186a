import java.nio.charset.StandardCharsets;
import java.util.Arrays;
import java.util.Random;

/** Long runs of drawn calls: the class and the model have to answer alike. */
public final class ModelTest {
    private static final int RUNS = 400;
    private static final int CALLS = 512;
    /** Ends, feeds up to 540 bytes, text() and fault(). */
    private static final int CALLS_OF_A_TEXT = 31;

    private final Random random;
    private final SeriesTables x = new SeriesTables();
    private final Model model = new Model();
    private final StringBuilder told = new StringBuilder();
    private final int[] a = new int[5];
    private int calls;

    private ModelTest(long seed) {
        random = new Random(seed);
    }

    public static void main(String[] args) {
        for (int run = 0; run < RUNS; run++) {
            ModelTest test = new ModelTest(run);
            if (!test.run()) {
                System.out.println("run " + run + ":\n" + test.told);
                System.exit(1);
            }
        }
        System.out.println(RUNS + " runs of " + CALLS + " calls, all alike");
    }

    private boolean run() {
        if (random.nextInt(10) > 0 && !tell()) {
            return false;
        }
        while (calls < CALLS) {
            boolean told = random.nextInt(60) == 0 && calls + CALLS_OF_A_TEXT <= CALLS;
            if (told ? !tell() : !call(random.nextInt(36))) {
                return false;
            }
        }
        return true;
    }

    private int pick(int most) {
        int[] beyond = {-1, most + 1, Integer.MIN_VALUE, Integer.MAX_VALUE, random.nextInt()};
        return random.nextInt(40) == 0 ? beyond[random.nextInt(beyond.length)] : random.nextInt(most + 1);
    }

    private int value() {
        switch (random.nextInt(4)) {
            case 0: return random.nextInt();
            case 1: return 0;
            default: return random.nextInt(5) - 2;
        }
    }

    private boolean alike(String name, int count, int got, int want) {
        calls++;
        told.append(name).append(Arrays.toString(Arrays.copyOf(a, count))).append(" = ").append(got);
        told.append(got == want ? "\n" : ", the model: " + want + "\n");
        return got == want;
    }

    private boolean call(int which) {
        int size = Math.max(1, model.now(0));
        for (int k = 0; k < 5; k++) {
            a[k] = 0;
        }
        switch (which) {
            case 0:
                a[0] = pick(4);
                return alike("now", 1, x.now(a[0]), model.now(a[0]));
            case 1: case 2:
                a[0] = pick(5);
                a[1] = pick(size - 1);
                return alike("at", 2, x.at(a[0], a[1]), model.at(a[0], a[1]));
            case 3: case 4: case 5:
                a[0] = pick(5);
                a[1] = pick(random.nextBoolean() ? size - 1 : 1);
                a[2] = value();
                return alike("put", 3, x.put(a[0], a[1], a[2]), model.put(a[0], a[1], a[2]));
            case 6: case 7:
                a[0] = pick(5);
                a[1] = pick(5);
                a[2] = pick(4);
                a[3] = pick(5);
                return alike("make", 4, x.make(a[0], a[1], a[2], a[3]), model.make(a[0], a[1], a[2], a[3]));
            case 8: case 9:
                a[0] = pick(5);
                a[1] = pick(5);
                a[2] = pick(5);
                return alike("turn", 3, x.turn(a[0], a[1], a[2]), model.turn(a[0], a[1], a[2]));
            case 10:
                a[0] = pick(5);
                a[1] = pick(random.nextBoolean() ? 99 : 2);
                a[2] = pick(5);
                return alike("raise", 3, x.raise(a[0], a[1], a[2]), model.raise(a[0], a[1], a[2]));
            case 11: case 12: case 13: case 14:
                a[0] = pick(5);
                a[1] = pick(5);
                a[2] = pick(3);
                return alike("pair", 3, x.pair(a[0], a[1], a[2]), model.pair(a[0], a[1], a[2]));
            case 15:
                a[0] = pick(3);
                a[1] = pick(size - 1);
                a[2] = pick(size - 1);
                return alike("entry", 3, Check.entry(x, a[0], a[1], a[2]), model.entry(a[0], a[1], a[2]));
            case 16:
                a[0] = pick(3);
                a[1] = pick(3);
                a[2] = pick(3);
                return alike("times", 3, x.times(a[0], a[1], a[2]), model.times(a[0], a[1], a[2]));
            case 17:
                a[0] = pick(3);
                a[1] = random.nextInt(21) - 10;
                a[2] = pick(3);
                return alike("power", 3, x.power(a[0], a[1], a[2]), model.power(a[0], a[1], a[2]));
            default:
                return more(which, size);
        }
    }

    private boolean more(int which, int size) {
        switch (which) {
            case 18: case 19:
                a[0] = pick(3);
                a[1] = pick(3);
                a[2] = pick(5);
                return alike("part", 3, x.part(a[0], a[1], a[2]), model.part(a[0], a[1], a[2]));
            case 20:
                a[0] = pick(3);
                a[1] = pick(5);
                a[2] = pick(5);
                return alike("apply", 3, x.apply(a[0], a[1], a[2]), model.apply(a[0], a[1], a[2]));
            case 21:
                a[0] = pick(3);
                a[1] = pick(3);
                a[2] = pick(5);
                return alike("sums", 3, x.sums(a[0], a[1], a[2]), model.sums(a[0], a[1], a[2]));
            case 22:
                a[0] = pick(3);
                a[1] = pick(Math.max(0, size - 2));
                a[2] = pick(Math.max(0, size - 2));
                return alike("production", 3, Check.production(x, a[0], a[1], a[2]), model.production(a[0], a[1], a[2]));
            case 23:
                a[0] = pick(3);
                return alike("kinds", 1, x.kinds(a[0]), model.kinds(a[0]));
            case 24:
                a[0] = pick(3);
                a[1] = pick(3);
                a[2] = pick(1);
                return alike("differ", 3, x.differ(a[0], a[1], a[2]), model.differ(a[0], a[1], a[2]));
            case 25:
                a[0] = pick(3);
                a[1] = pick(5);
                a[2] = pick(5);
                return alike("fails", 3, x.fails(a[0], a[1], a[2]), model.fails(a[0], a[1], a[2]));
            case 26:
                a[0] = pick(size - 1);
                a[1] = pick(size - 1);
                return alike("free", 2, x.free(a[0], a[1]), model.free(a[0], a[1]));
            case 27:
                a[0] = pick(size - 1);
                a[1] = pick(size - 1);
                a[2] = value();
                return alike("set", 3, x.set(a[0], a[1], a[2]), model.set(a[0], a[1], a[2]));
            case 28:
                a[0] = pick(3);
                return alike("lay", 1, x.lay(a[0]), model.lay(a[0]));
            case 29:
                return alike("unlike", 0, x.unlike(), model.unlike());
            case 30:
                a[0] = pick(3);
                return alike("rebuild", 1, x.rebuild(a[0]), model.rebuild(a[0]));
            case 31:
                a[0] = pick(random.nextInt(4) == 0 ? 60 : 4);
                a[1] = random.nextInt();
                return alike("drawn", 2, x.drawn(a[0], a[1]), model.drawn(a[0], a[1]));
            case 32: case 33:
                return alike("undo", 0, x.undo(), model.undo());
            case 34:
                a[0] = pick(1);
                return alike("image", 1, x.image(a[0]) ? 1 : 0, model.image(a[0]));
            default:
                a[0] = pick(1);
                boolean seldom = random.nextInt(4) > 0;
                return seldom || alike("restore", 1, x.restore(a[0]) ? 1 : 0, model.restore(a[0]));
        }
    }

    // ---- texts ----

    private String blank() {
        String[] blanks = {"", "", " ", "\n", "  "};
        return blanks[random.nextInt(blanks.length)];
    }

    private String sum(int size, boolean begins) {
        StringBuilder text = new StringBuilder();
        int count = random.nextInt(30) == 0 ? size + 1 : 1 + random.nextInt(size);
        for (int i = 0; i < count; i++) {
            text.append(' ').append(random.nextInt(4) == 0 ? "-" : "").append(blank());
            int most = i == 0 && !begins ? 2 : random.nextInt(5) == 0 ? 1000 : 4;
            text.append(i == 0 && begins && random.nextInt(20) > 0 ? 1 + random.nextInt(3) : random.nextInt(most));
        }
        return text.append(' ').toString();
    }

    private String drawText() {
        if (random.nextInt(25) == 0) {
            return blank() + blank();
        }
        int size = 2 + random.nextInt(9);
        StringBuilder text = new StringBuilder(blank() + "size " + size + blank() + ";");
        int series = 0;
        int count = random.nextInt(random.nextInt(8) == 0 ? 14 : 9);
        for (int line = 0; line < count; line++) {
            text.append(blank());
            if (series < 2 || random.nextInt(3) > 0 && series < 6 || random.nextInt(20) == 0) {
                String first = series == 0 ? " 1 2 " : series == 1 ? " 0 -3 " : sum(size, false);
                text.append("series").append(first);
                text.append(random.nextBoolean() ? "over" + sum(size, true) : "");
                series++;
            } else {
                boolean any = random.nextInt(6) == 0;
                int g = any ? random.nextInt(series + 1) : 0;
                text.append("table ").append(g).append(' ').append(any ? random.nextInt(series + 1) : 1);
            }
            text.append(blank()).append(';');
        }
        return text.toString();
    }

    private String spoiled(String text) {
        String signs = "; -\n,A0123456789seriotablv" + (char) 200 + (char) 0;
        StringBuilder spoiled = new StringBuilder(text);
        for (int times = random.nextInt(3); times >= 0 && spoiled.length() > 0; times--) {
            int at = random.nextInt(spoiled.length());
            char sign = signs.charAt(random.nextInt(signs.length()));
            switch (random.nextInt(3)) {
                case 0:
                    spoiled.deleteCharAt(at);
                    break;
                case 1:
                    spoiled.setCharAt(at, sign);
                    break;
                default:
                    spoiled.insert(at, sign);
            }
        }
        return spoiled.toString();
    }

    /** Blanks behind the first line put the rest about the 500th byte. */
    private String lengthened(String text) {
        int at = text.indexOf(';') + 1;
        int length = 490 + random.nextInt(25);
        int more = length - (random.nextBoolean() ? text.length() : at + random.nextInt(text.length() - at + 1));
        return more <= 0 ? text : text.substring(0, at) + " ".repeat(more) + text.substring(at);
    }

    private boolean tell() {
        String text = drawText();
        if (random.nextInt(3) == 0) {
            text = spoiled(text);
        }
        if (random.nextInt(8) == 0) {
            text = lengthened(text);
        }
        byte[] bytes = text.getBytes(StandardCharsets.ISO_8859_1);
        if (random.nextInt(50) > 0) {
            a[0] = 0;
            if (!alike("end", 1, x.end(0) ? 1 : 0, model.end(0))) {
                return false;
            }
        }
        for (int at = 0; at < bytes.length; at += 20) {
            int[] five = new int[5];
            for (int i = 0; i < 20; i++) {
                five[i / 4] = five[i / 4] << 8 | (at + i < bytes.length ? bytes[at + i] & 255 : 0);
            }
            System.arraycopy(five, 0, a, 0, 5);
            if (!alike("feed", 5, x.feed(five[0], five[1], five[2], five[3], five[4]), model.feed(five))) {
                return false;
            }
        }
        a[0] = random.nextInt(20) == 0 ? pick(540) : bytes.length;
        return alike("end", 1, x.end(a[0]) ? 1 : 0, model.end(a[0]))
            && alike("text", 0, x.text(), model.text())
            && alike("fault", 0, x.fault(), model.fault());
    }
}
