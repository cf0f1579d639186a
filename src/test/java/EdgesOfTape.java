/** A new object, the tape, and what text(), fault() and now() tell at their limits. */
final class EdgesOfTape {
    private static final int LEAST = Integer.MIN_VALUE;
    private static final int MOST = Integer.MAX_VALUE;
    private static final int BLANKS = 0x20202020;

    private EdgesOfTape() {
    }

    private static void feedBlanks(SeriesTables x, int times) {
        for (int k = 0; k < times; k++) {
            x.feed(BLANKS, BLANKS, BLANKS, BLANKS, BLANKS);
        }
    }

    private static int feedSizeTwo(SeriesTables x) {
        return x.feed(0x73697a65, 0x20323b20, BLANKS, BLANKS, BLANKS);
    }

    @Sentence(of = "What it is", says = "An object is used for at most 512 calls after it has been made")
    static void the512thCallIsAnswered(Check check) {
        SeriesTables x = new SeriesTables();
        feedSizeTwo(x);
        x.text();
        for (int call = 3; call <= 503; call++) {
            check.same("put", x.put(call % 6, call % 2, call), call);
        }
        for (int left = 7; left >= 0; left--) {
            check.same("undo", x.undo(), left);
        }
        check.same("the 512th", x.undo(), -1);
    }

    @Sentence(of = "Promise 1", says = "No SIZE (0: no coefficients, ENTRIES)")
    static void newObjectHasNoSize(Check check) {
        SeriesTables x = new SeriesTables();
        check.same("SIZE", x.now(0), 0);
        check.same("SERIES told", x.now(1), 0);
        check.same("TABLES told", x.now(2), 0);
        check.same("acts", x.now(3), 0);
        check.same("no coefficients", x.at(0, 0), -1);
        check.same("no ENTRIES", Check.entry(x, 0, 0, 0), Check.THROWN);
    }

    @Sentence(of = "Promise 1", says = "an empty tape")
    static void newObjectHasAnEmptyTape(Check check) {
        SeriesTables x = new SeriesTables();
        check.same("bytes", x.now(4), 0);
        check.same("end(1)", x.end(1), false);
        check.same("end(0)", x.end(0), true);
        check.same("text()", x.text(), 0);
    }

    @Sentence(of = "Promise 2", says = "Twenty bytes come behind the tape, of each number the highest first: how many it has")
    static void highestByteComesFirst(Check check) {
        SeriesTables x = new SeriesTables();
        check.same("feed", x.feed(0x73697a65, 0x0a20330a, 0x3b736572, 0x69657320, 0x31202d32), 20);
        check.same("feed", x.feed(0x2033203b, BLANKS, 0x0a0a0a0a, BLANKS, 0x2020200a), 40);
        check.same("text", x.text(), 2);
        check.row("series 1 -2 3", x, 0, 1, -2, 3);
    }

    @Sentence(of = "Promise 2", says = "Twenty bytes come behind the tape, of each number the highest first: how many it has")
    static void everyByteOfTheTwentyCounts(Check check) {
        for (int at = 0; at < 20; at++) {
            byte[] bytes = Check.filled("", 20).getBytes();
            bytes[at] = (byte) 0xff;
            SeriesTables x = new SeriesTables();
            Check.tape(x, bytes);
            check.same("the FAULT at byte " + at, x.text(), -1 - at);
        }
    }

    @Sentence(of = "Promise 2", says = "NONE, and none come, if it would have more than 540")
    static void tapeOf540Bytes(Check check) {
        SeriesTables x = new SeriesTables();
        for (int k = 1; k <= 27; k++) {
            check.same("feed", x.feed(k, LEAST, MOST, -1, 0), 20 * k);
        }
        check.same("bytes", x.now(4), 540);
    }

    @Sentence(of = "Promise 2", says = "NONE, and none come, if it would have more than 540")
    static void feedBeyond540(Check check) {
        SeriesTables x = new SeriesTables();
        feedSizeTwo(x);
        feedBlanks(x, 26);
        check.same("feed", x.feed(1, 2, 3, 4, 5), -1);
        check.same("none came", x.now(4), 540);
        check.same("and once more", x.feed(1, 2, 3, 4, 5), -1);
        x.end(500);
        check.same("the bytes are as they were", x.text(), 1);
    }

    @Sentence(of = "Promise 2", says = "NONE, and none come, if it would have more than 540")
    static void feedFrom520And521Bytes(Check check) {
        SeriesTables x = new SeriesTables();
        feedBlanks(x, 27);
        check.same("521", x.end(521), true);
        check.same("521 and 20", x.feed(1, 2, 3, 4, 5), -1);
        check.same("none came", x.now(4), 521);
        check.same("520", x.end(520), true);
        check.same("520 and 20", x.feed(1, 2, 3, 4, 5), 540);
        x.end(500);
        check.same("what lies ahead stays", x.text(), 0);
    }

    @Sentence(of = "Promise 3", says = "The tape has its first n bytes alone: true")
    static void endAtZero(Check check) {
        SeriesTables x = new SeriesTables();
        check.same("of an empty tape", x.end(0), true);
        feedSizeTwo(x);
        check.same("of twenty bytes", x.end(0), true);
        check.same("bytes", x.now(4), 0);
        check.same("an empty TEXT", x.text(), 0);
        check.same("SIZE", x.now(0), 0);
        feedBlanks(x, 27);
        check.same("of 540 bytes", x.end(0), true);
        check.same("bytes", x.now(4), 0);
        check.same("there is room again", x.feed(1, 2, 3, 4, 5), 20);
    }

    @Sentence(of = "Promise 3", says = "The tape has its first n bytes alone: true")
    static void endAtTheTapesOwnLength(Check check) {
        SeriesTables x = new SeriesTables();
        feedSizeTwo(x);
        check.same("20 of 20", x.end(20), true);
        check.same("bytes", x.now(4), 20);
        check.same("19 of 20", x.end(19), true);
        check.same("19 of 19", x.end(19), true);
        check.same("bytes", x.now(4), 19);
        check.same("the bytes are as they were", x.text(), 1);
        feedBlanks(x, 27);
        check.same("540 of 540", x.end(540), true);
        check.same("bytes", x.now(4), 540);
    }

    @Sentence(of = "Promise 3", says = "The tape has its first n bytes alone: true")
    static void whatComesBehindAnEnd(Check check) {
        SeriesTables x = new SeriesTables();
        feedSizeTwo(x);
        x.end(5);
        check.same("five and twenty", x.feed(0x393b2020, BLANKS, BLANKS, BLANKS, BLANKS), 25);
        check.same("text", x.text(), 1);
        check.same("'size ' and '9;'", x.now(0), 9);
    }

    @Sentence(of = "Promise 3", says = "false, if it has not so many, or n is below 0")
    static void endBeyondTheTape(Check check) {
        SeriesTables x = new SeriesTables();
        check.same("1 of none", x.end(1), false);
        feedSizeTwo(x);
        for (int n : new int[] {21, 22, 540, 541, MOST, -1, -2, -20, LEAST}) {
            check.same("end(" + n + ")", x.end(n), false);
            check.same("the tape stays", x.now(4), 20);
        }
        x.end(7);
        check.same("what was cut off is no more there", x.end(8), false);
        check.same("bytes", x.now(4), 7);
        check.same("the bytes are as they were", x.text(), 1);
        feedBlanks(x, 27);
        check.same("541 of 540", x.end(541), false);
        check.same("bytes", x.now(4), 540);
    }

    @Sentence(of = "Promise 4", says = "The tape (empty then, even with a FAULT)")
    static void tapeIsEmptyBehindAText(Check check) {
        SeriesTables x = new SeriesTables();
        feedSizeTwo(x);
        check.same("a TEXT", x.text(), 1);
        check.same("bytes", x.now(4), 0);
        check.same("none to end at", x.end(1), false);
        x.feed(1, 2, 3, 4, 5);
        check.same("a FAULT", x.text(), -1);
        check.same("bytes", x.now(4), 0);
        check.same("none to end at", x.end(1), false);
        feedBlanks(x, 27);
        check.same("a FAULT at 500", x.text(), -501);
        check.same("bytes", x.now(4), 0);
        check.same("an empty TEXT", x.text(), 0);
    }

    @Sentence(of = "Promise 4", says = "is a TEXT (an empty one: SIZE 0)")
    static void emptyText(Check check) {
        for (String empty : new String[] {"", " ", "\n", Check.filled("\n", 500)}) {
            SeriesTables x = Check.told("size 3;series 1 2 3;series 0 1;table 0 1;");
            x.put(5, 2, 7);
            x.set(2, 2, 7);
            check.same("no LINES", Check.text(x, empty), 0);
            check.same("no FAULT", x.fault(), 0);
            check.same("SIZE", x.now(0), 0);
            check.same("SERIES", x.now(1), 0);
            check.same("TABLES", x.now(2), 0);
            check.same("nothing can be undone", x.now(3), 0);
            check.same("no coefficients", x.at(0, 0), -1);
            check.same("no ENTRIES", Check.entry(x, 0, 0, 0), Check.THROWN);
            check.same("no numbers of THE FREE TABLE", x.free(0, 0), -1);
        }
    }

    @Sentence(of = "Promise 4", says = "how many LINES")
    static void fewestAndMostLines(Check check) {
        check.lines("", 0);
        check.lines("size 2;", 1);
        check.lines("size 2;series 1;series 0 1;series 1;series 1;series 1;series 1;"
            + "table 0 1;table 0 1;table 0 1;table 0 1;", 11);
    }

    @Sentence(of = "Promise 4", says = "-1 less the place of a FAULT")
    static void placesOfFaultsFrom0To500(Check check) {
        for (int place = 0; place <= 520; place += 4) {
            SeriesTables x = new SeriesTables();
            Check.tape(x, Check.filled("", 540).getBytes());
            x.end(place);
            x.feed(-1, -1, -1, -1, -1);
            check.same("a FAULT at " + place, x.text(), -1 - Math.min(place, 500));
            check.same("its kind", x.fault(), 1);
        }
    }

    @Sentence(of = "Promise 4", says = "-1 less the place of a FAULT: all stays")
    static void allStaysWithAFault(Check check) {
        String[] faults = {"size 4;series 7;series 0 7;table 0 1;,", "size 1;", "size 5;series 3 3 3 3 3 over 0;",
            "size 2;series 9;table 0 0;", "size 2;series 9;series 9;series 9;series 9;series 9;series 9;series 9;"};
        for (String fault : faults) {
            SeriesTables x = Check.told("size 3;series 1 2 3;series 0 2 1;table 0 1;");
            SeriesTables twin = Check.told("size 3;series 1 2 3;series 0 2 1;table 0 1;");
            for (SeriesTables each : new SeriesTables[] {x, twin}) {
                each.image(1);
                each.lay(0);
                each.put(5, 2, 8);
            }
            check.same("a FAULT in " + fault, Check.text(x, fault) < 0, true);
            check.same("all stays", Shown.all(x).equals(Shown.all(twin)), true);
            check.same("acts stay", x.undo(), 1);
            twin.undo();
            check.same("all stays", Shown.all(x).equals(Shown.all(twin)), true);
            check.same("images stay", x.restore(1), true);
            twin.restore(1);
            check.same("all stays", Shown.all(x).equals(Shown.all(twin)), true);
        }
    }

    @Sentence(of = "Promise 5", says = "The kind of the FAULT of the latest text()")
    static void kindOfTheLatestText(Check check) {
        SeriesTables x = new SeriesTables();
        String[] texts = {"size", "size 1;", "size 2;series 1;series 1;series 1;series 1;series 1;series 1;series 1;",
            "size 2;series 1;table 0 0;", "size 2;", "size 1;", ""};
        int[] kinds = {1, 2, 3, 4, 0, 2, 0};
        for (int k = 0; k < texts.length; k++) {
            Check.tape(x, texts[k].getBytes());
            check.same("ahead of text()", x.fault(), k == 0 ? 0 : kinds[k - 1]);
            x.text();
            check.same("behind it", x.fault(), kinds[k]);
        }
    }

    @Sentence(of = "Promise 5", says = "0 without one and ahead of any")
    static void noFaultAheadOfAnyText(Check check) {
        SeriesTables x = new SeriesTables();
        check.same("of a new object", x.fault(), 0);
        x.feed(1, 2, 3, 4, 5);
        check.same("with a tape that is no TEXT", x.fault(), 0);
        x.end(0);
        x.text();
        check.same("of an empty TEXT", x.fault(), 0);
        Check.text(x, "size 2;");
        check.same("of a TEXT", x.fault(), 0);
    }

    @Sentence(of = "Promise 6", says = "0 SIZE, 1 SERIES, 2 TABLES that the latest text() without a FAULT told")
    static void whatTheLatestTextWithoutAFaultTold(Check check) {
        SeriesTables x = Check.told("size 10;series 1;series 0 1;series 1;series 1;series 1;series 1;"
            + "table 0 1;table 0 1;table 0 1;table 0 1;");
        int[] full = {10, 6, 4};
        int[] one = {2, 1, 0};
        for (int what = 0; what < 3; what++) {
            check.same("now(" + what + ")", x.now(what), full[what]);
        }
        x.pair(0, 1, 0);
        x.put(5, 5, 5);
        Check.text(x, "size 2;series 1;,");
        for (int what = 0; what < 3; what++) {
            check.same("behind a FAULT now(" + what + ")", x.now(what), full[what]);
        }
        Check.text(x, "size 2;series 1;");
        for (int what = 0; what < 3; what++) {
            check.same("told anew now(" + what + ")", x.now(what), one[what]);
        }
        x.put(3, 0, 1);
        check.same("a SERIES that is put is not told", x.now(1), 1);
        x.text();
        for (int what = 0; what < 3; what++) {
            check.same("of an empty TEXT now(" + what + ")", x.now(what), 0);
        }
    }

    @Sentence(of = "Promise 6", says = "3 acts that can be undone, 4 bytes of the tape")
    static void actsAndBytes(Check check) {
        SeriesTables x = Check.told("size 2;");
        for (int acts = 0; acts <= 10; acts++) {
            check.same("acts", x.now(3), Math.min(acts, 8));
            x.put(0, 0, acts);
        }
        for (int bytes = 0; bytes <= 560; bytes += 20) {
            check.same("bytes", x.now(4), Math.min(bytes, 540));
            feedBlanks(x, 1);
        }
    }

    @Sentence(of = "Promise 6", says = "NONE for another what")
    static void nowOfAnotherWhat(Check check) {
        SeriesTables x = Check.told("size 2;");
        for (int what : new int[] {-1, -2, 5, 6, LEAST, MOST}) {
            check.same("now(" + what + ")", x.now(what), -1);
            check.same("without SIZE now(" + what + ")", new SeriesTables().now(what), -1);
        }
    }
}
