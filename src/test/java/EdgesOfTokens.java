/** What a TEXT may be: the limits that stand under "Terms". */
final class EdgesOfTokens {
    private static final String TWO = "size 3;series 1;series 0 1;";

    private EdgesOfTokens() {
    }

    @Sentence(of = "Terms", says = "blanks (32, 10) between them or not")
    static void blanksAre32And10Alone(Check check) {
        check.lines("size 2;series 1 1;", 2);
        check.lines("\n size\n \n2 \n; series\n1 1 ;\n", 2);
        check.fault("size" + (char) 9 + "2;", 4, 1);
        check.fault("size" + (char) 13 + "2;", 4, 1);
        check.fault("size" + (char) 11 + "2;", 4, 1);
        check.fault("size" + (char) 31 + "2;", 4, 1);
        check.fault("size" + (char) 33 + "2;", 4, 1);
        check.fault("size 2;" + (char) 160, 7, 1);
    }

    @Sentence(of = "Terms", says = "blanks (32, 10) between them or not")
    static void noBlankIsNeededAboutSigns(Check check) {
        SeriesTables x = Check.told("size 3;series-1-2-3 over-1-0-0;");
        check.row("minus over minus", x, 0, 1, 2, 3);
    }

    @Sentence(of = "Terms", says = "WORDS: small letters")
    static void wordsAreOfSmallLettersAlone(Check check) {
        check.fault("Size 2;", 0, 1);
        check.fault("sizE 2;", 0, 1);
        check.fault("size 2;seriesX 1;", 13, 1);
        check.fault("SIZE 2;", 0, 1);
        check.fault("siz" + (char) 0xe9 + " 2;", 0, 1);
        check.fault("size 2;seri`es 1;", 7, 1);
        check.fault("size 2;series{1;", 13, 1);
    }

    @Sentence(of = "Terms", says = "WORDS: small letters")
    static void wordsWithAnotherLetterCanNotCome(Check check) {
        String[] ahead = {"", "size 3;", "size 3;series 1 ", TWO};
        String[] words = {"size", "series", "over", "table"};
        String[] behind = {" 2;", " 1;", " 1;", " 0 1;"};
        for (int k = 0; k < 4; k++) {
            check.lines(ahead[k] + words[k] + behind[k], k == 0 ? 1 : k == 3 ? 4 : 2);
            for (int at = 0; at < words[k].length(); at++) {
                String other = words[k].substring(0, at) + "x" + words[k].substring(at + 1);
                String shorter = words[k].substring(0, at) + words[k].substring(at + 1);
                check.fault(ahead[k] + other + behind[k], ahead[k].length(), 1);
                check.fault(ahead[k] + shorter + behind[k], ahead[k].length(), 1);
            }
            check.fault(ahead[k] + words[k] + "x" + behind[k], ahead[k].length(), 1);
        }
    }

    @Sentence(of = "Terms", says = "NUMBERS: 1 to 3 digits")
    static void numbersHaveOneToThreeDigits(Check check) {
        SeriesTables x = Check.told("size 3;series 7 42 999;series 000 001 -999;");
        check.row("1, 2, 3 digits", x, 0, 7, 42, 999);
        check.row("zeros ahead count as digits", x, 1, 0, 1, -999);
        check.fault("size 3;series 1000;", 14, 1);
        check.fault("size 3;series 0001;", 14, 1);
        check.fault("size 3;series 1 -1000;", 17, 1);
        check.fault("size 0003;", 5, 1);
        check.fault(TWO + "table 0000 1;", TWO.length() + 6, 1);
        check.fault("size 3;series " + "1".repeat(400) + ";", 14, 1);
    }

    @Sentence(of = "Terms", says = "digits; signs ; -")
    static void signsAreSemicolonAndMinusAlone(Check check) {
        check.lines("size 2;series -1;", 2);
        check.fault("size 2:", 6, 1);
        check.fault("size 2,", 6, 1);
        check.fault("size 2;series +1;", 14, 1);
        check.fault("size 2;series 1.5;", 15, 1);
        check.fault("size 2;series 1/1;", 15, 1);
    }

    @Sentence(of = "Terms", says = "A WORD, NUMBER goes on as long as small letters and digits do")
    static void wordsAndNumbersGoOnTogether(Check check) {
        check.fault("size2;", 0, 1);
        check.fault("size 2x;", 5, 1);
        check.fault("size 2;series1;", 7, 1);
        check.fault("size 2;series 1over 1;", 14, 1);
        check.fault("size 2;series 1 over1;", 16, 1);
        check.fault("size 2;series 1 overover 1;", 16, 1);
        check.fault("size 2;seriesseries 1;", 7, 1);
        check.fault(TWO + "table0 1;", TWO.length(), 1);
        check.fault(TWO + "table 0a 1;", TWO.length() + 6, 1);
    }

    @Sentence(of = "Terms", says = "what is not as told is no TOKEN")
    static void otherBytesAreNoToken(Check check) {
        for (int sign = 0; sign < 256; sign++) {
            boolean told = sign == ' ' || sign == '\n' || sign == ';' || sign == '-';
            boolean goesOn = sign >= 'a' && sign <= 'z' || sign >= '0' && sign <= '9';
            if (!told && !goesOn) {
                check.fault("size 2" + (char) sign + ";", 6, 1);
                check.fault((char) sign + "", 0, 1);
            }
        }
    }

    @Sentence(of = "Terms", says = "A TEXT has at most 500 bytes")
    static void textOf500Bytes(Check check) {
        check.lines(Check.filled("size 2;", 499), 1);
        check.lines(Check.filled("size 2;", 500), 1);
        check.lines(Check.filled("", 500), 0);
        check.lines(" ".repeat(493) + "size 2;", 1);
        check.lines("size 2;" + " ".repeat(484) + "series 1;", 2);
    }

    @Sentence(of = "Terms", says = "A TEXT has at most 500 bytes")
    static void textOf501To540Bytes(Check check) {
        for (int length = 501; length <= 540; length++) {
            check.fault(Check.filled("size 2;", length), 500, 1);
            check.fault(Check.filled("", length), 500, 1);
        }
    }

    @Sentence(of = "Terms", says = "{ LINE ; }")
    static void everyLineHasItsSemicolon(Check check) {
        check.lines("", 0);
        check.lines("size 2;", 1);
        check.fault("size 2", 6, 1);
        check.fault(";", 0, 1);
        check.fault("size 2;;", 7, 1);
        check.fault("size 2;series 1;;", 16, 1);
        check.fault("size 2;series 1 series 1;", 16, 1);
        check.fault("size 2 series 1;", 7, 1);
        check.fault(TWO + "table 0 1", TWO.length() + 9, 1);
        check.fault(TWO + "table 0 1 table 0 1;", TWO.length() + 10, 1);
    }

    @Sentence(of = "Terms", says = "The first LINE: 'size' N (2 to 10: SIZE)")
    static void sizeTwoAndTenAndBesideThem(Check check) {
        check.same("size 2", Check.told("size 2;").now(0), 2);
        check.same("size 3", Check.told("size 3;").now(0), 3);
        check.same("size 9", Check.told("size 9;").now(0), 9);
        check.same("size 10", Check.told("size 10;").now(0), 10);
        check.same("size 002", Check.told("size 002;").now(0), 2);
        check.same("size 010", Check.told("size 010;").now(0), 10);
        check.fault("size 0;", 5, 2);
        check.fault("size 1;", 5, 2);
        check.fault("size 11;", 5, 2);
        check.fault("size 12;", 5, 2);
        check.fault("size 100;", 5, 2);
        check.fault("size 999;", 5, 2);
    }

    @Sentence(of = "Terms", says = "The first LINE: 'size' N (2 to 10: SIZE)")
    static void noOtherLineIsTheFirst(Check check) {
        check.fault("series 1;", 0, 1);
        check.fault("table 0 1;", 0, 1);
        check.fault("over 1;", 0, 1);
        check.fault("2;", 0, 1);
        check.fault("-", 0, 1);
        check.fault("size;", 4, 1);
        check.fault("size -2;", 5, 1);
        check.fault("size 2 2;", 7, 1);
        check.fault("size size 2;", 5, 1);
    }

    @Sentence(of = "Terms", says = "The others: 'series' SUM [ 'over' SUM ]")
    static void sizeIsToldOnceAlone(Check check) {
        check.fault("size 2;size 2;", 7, 1);
        check.fault("size 2;series 1;size 2;", 16, 1);
        check.fault("size 2;over 1;", 7, 1);
        check.fault("size 2;1;", 7, 1);
        check.fault("size 2;sum 1;", 7, 1);
    }

    @Sentence(of = "Terms", says = "The others: 'series' SUM [ 'over' SUM ]")
    static void overComesOnceAlone(Check check) {
        check.lines("size 2;series 1 over 1;", 2);
        check.fault("size 2;series 1 over 1 over 1;", 23, 1);
        check.fault("size 2;series over 1;", 14, 1);
        check.fault("size 2;series 1 over;", 20, 1);
    }

    @Sentence(of = "Terms", says = "SUM: one [ '-' ] NUMBER or more")
    static void sumOfNoNumberOrOfMinusAlone(Check check) {
        check.lines("size 2;series 1;", 2);
        check.lines("size 2;series - 1;", 2);
        check.fault("size 2;series;", 13, 1);
        check.fault("size 2;series -;", 15, 1);
        check.fault("size 2;series --1;", 15, 1);
        check.fault("size 2;series 1-;", 16, 1);
        check.fault("size 2;series 1 over;", 20, 1);
        check.fault("size 2;series 1 over-;", 21, 1);
        check.fault("size 2;series 1 over 1--1;", 23, 1);
    }

    @Sentence(of = "Terms", says = "coefficients from 0 on, SIZE of them at most")
    static void sumOfSizeNumbersAndOneMore(Check check) {
        check.lines("size 2;series 1 2;", 2);
        check.fault("size 2;series 1 2 3;", 18, 1);
        check.fault("size 2;series 1 2-3;", 17, 1);
        check.fault("size 2;series 1 2-;", 17, 1);
        check.lines("size 2;series 1 2 over 1 2;", 2);
        check.fault("size 2;series 1 2 over 1 2 3;", 27, 1);
        check.fault("size 2;series 1 2 over 1 2 -3;", 27, 1);
        SeriesTables x = Check.told("size 10;series 1 2 3 4 5 6 7 8 9 10 over 1 0 0 0 0 0 0 0 0 -1;");
        check.row("SIZE of them", x, 0, 1, 2, 3, 4, 5, 6, 7, 8, 9, 11);
        check.fault("size 10;series 1 2 3 4 5 6 7 8 9 10 11;", 36, 1);
        check.fault("size 10;series 1 over 1 2 3 4 5 6 7 8 9 10 11;", 43, 1);
    }

    @Sentence(of = "Terms", says = "coefficients from 0 on, SIZE of them at most")
    static void coefficientsThatAreNotToldAreZero(Check check) {
        SeriesTables x = Check.told("size 4;series 1 2 3 4 over 1;series 5;series 1 over 1 1 1 1;series 6 over 1;");
        check.row("all told", x, 0, 1, 2, 3, 4);
        check.row("one told", x, 1, 5, 0, 0, 0);
        check.row("a long divisor", x, 2, 1, -1, 0, 0);
        check.row("a short one behind it", x, 3, 6, 0, 0, 0);
    }

    @Sentence(of = "Terms", says = "a SERIES, numbered from 0 as told, 6 at most")
    static void sixSeriesAndOneMore(Check check) {
        String six = "size 2;series 1;series 2;series 3;series 4;series 5;series 6;";
        SeriesTables x = Check.told(six);
        for (int place = 0; place < 6; place++) {
            check.same("numbered from 0", x.at(place, 0), place + 1);
        }
        check.same("six told", x.now(1), 6);
        check.fault(six + "series 7;", six.length(), 3);
    }

    @Sentence(of = "Terms", says = "of the SUM behind over the first one is not 0")
    static void firstOneBehindOver(Check check) {
        check.lines("size 3;series 1 over 1;", 2);
        check.lines("size 3;series 1 over -999 0 0;", 2);
        check.lines("size 3;series 0 0 0 over 001;", 2);
        check.fault("size 3;series 1 over 0;", 21, 2);
        check.fault("size 3;series 1 over 000 1;", 21, 2);
        check.fault("size 3;series 1 over -0 1;", 22, 2);
        check.fault("size 3;series 1 over - 00;", 23, 2);
    }

    @Sentence(of = "Terms", says = "NUMBERS of SERIES told ahead that make a TABLE")
    static void numbersOfSeriesToldAhead(Check check) {
        check.lines(TWO + "table 0 1;", 4);
        check.fault("size 3;table 0 0;", 13, 2);
        check.fault(TWO + "table 2 1;", TWO.length() + 6, 2);
        check.fault(TWO + "table 0 2;", TWO.length() + 8, 2);
        check.fault(TWO + "table 0 2;series 0 1;", TWO.length() + 8, 2);
        check.fault(TWO + "table 999 1;", TWO.length() + 6, 2);
        check.fault(TWO + "table -0 1;", TWO.length() + 6, 1);
        check.fault(TWO + "table 0 -1;", TWO.length() + 8, 1);
        check.fault(TWO + "table;", TWO.length() + 5, 1);
        check.fault(TWO + "table 0;", TWO.length() + 7, 1);
        check.fault(TWO + "table 0 1 1;", TWO.length() + 10, 1);
        String six = TWO + "series 2;series 3;series 4;series 0 5;";
        check.same("the last of six", Check.entry(Check.told(six + "table 4 5;"), 0, 1, 1), 20);
        check.fault(six + "table 4 6;", six.length() + 8, 2);
    }

    @Sentence(of = "Terms", says = "numbered likewise, 4 at most")
    static void fourTablesAndOneMore(Check check) {
        String four = "size 2;series 1;series 0 1;series 0 2;series 0 3;series 0 4;"
            + "table 0 1;table 0 2;table 0 3;table 0 4;";
        SeriesTables x = Check.told(four);
        for (int place = 0; place < 4; place++) {
            check.same("numbered from 0", Check.entry(x, place, 1, 1), place + 1);
        }
        check.same("four told", x.now(2), 4);
        check.fault(four + "table 0 1;", four.length(), 3);
    }
}
