/** Of the terms: TOKENS, BLANKS, NUMBERS and DIGITS, and the TOKENS n and f. */
public final class TokensTest {
    public static void main(String[] args) {
        Check.sentence("bytes that are no BLANKS (0, 9, 10, 12, 13, 32)", TokensTest::blanks);
        Check.sentence("BLANKS before, between and behind the TOKENS", TokensTest::manyBlanks);
        Check.sentence("each as long as can be", TokensTest::asLongAsCanBe);
        Check.sentence("a NUMBER is one of 1 to 10 DIGITS: how many", TokensTest::oneToTen);
        Check.sentence("a NUMBER is one of 1 to 10 DIGITS: the least and the greatest", TokensTest::leastAndGreatest);
        Check.sentence("DIGITS (48 .. 57): alone", TokensTest::digitsAlone);
        Check.sentence("DIGITS (48 .. 57): behind and before others", TokensTest::digitsAmongOthers);
        Check.sentence("the TOKEN n (110) or f (102)", TokensTest::marks);
        Check.sentence("the TOKEN n or f, and no longer one", TokensTest::longerMarks);
        Check.sentence("the TOKEN n or f, where no ROW is due", TokensTest::marksWhenNoneIsDue);
        Check.sentence("a table without TOKENS", TokensTest::noTokens);
        Check.end();
    }

    private static boolean isBlank(int b) {
        return b == 0 || b == 9 || b == 10 || b == 12 || b == 13 || b == 32;
    }

    private static boolean isDigit(int b) {
        return b >= 48 && b <= 57;
    }

    private static void blanks() {
        for (int b = 0; b < 256; b++) {
            CrossTables x = Maker.readTable("7" + (char) b + "1 5 6 f");
            if (isBlank(b)) {
                Maker.counts("byte " + b, x, 7, 1, 5, 6);
                Maker.told("byte " + b, x, 3, 0, 4);
            } else {
                Maker.nothingCounts("byte " + b, x, 7);
                Maker.told("byte " + b, x, 4, 0, isDigit(b) ? 8 : 0);
            }
        }
    }

    private static void manyBlanks() {
        String all = " \n\t\r\f\0";
        CrossTables x = Maker.readTable(all + "7" + all + "1" + all + "5" + all + "6" + all + "f" + all);
        Maker.counts("blanks", x, 7, 1, 5, 6);
        Maker.told("where the row begins", x, 3, 0, 20);
        CrossTables y = Maker.readTable("7 1 5 6 f");
        Maker.counts("no blanks before and behind", y, 7, 1, 5, 6);
        Maker.told("where the row begins", y, 3, 0, 4);
    }

    private static void asLongAsCanBe() {
        CrossTables x = Maker.readTable("12 1 34 56 f");
        Maker.counts("numbers of two digits", x, 12, 1, 34, 56);
        Maker.nothingCounts("one digit of them", x, 1);
        Maker.told("n at a number", Maker.readTable("7 1 5 6f"), 4, 0, 6);
        Maker.told("a number at n", Maker.readTable("7 1 5 6 f8 0"), 4, 0, 4);
        Maker.told("eleven digits are not ten and one", Maker.readTable("12345678901 0"), 4, 0, 0);
    }

    private static void oneToTen() {
        for (int digits = 1; digits <= 13; digits++) {
            String number = "0".repeat(digits - 1) + "7";
            boolean good = digits <= 10;
            CrossTables first = Maker.readTable(number + " 1 5 6 f");
            CrossTables second = Maker.readTable("7 " + "0".repeat(digits - 1) + "1 5 6 f");
            CrossTables place = Maker.readTable("7 1 " + number + " 6 f");
            CrossTables generation = Maker.readTable("7 1 5 " + number + " f");
            String what = digits + " digits";
            if (good) {
                Maker.counts(what, first, 7, 1, 5, 6);
                Maker.counts(what, second, 7, 1, 5, 6);
                Maker.counts(what, place, 7, 1, 7, 6);
                Maker.counts(what, generation, 7, 1, 5, 7);
            } else {
                Maker.told(what, first, 4, 0, 0);
                Maker.told(what, second, 4, 0, 2);
                Maker.told(what, place, 4, 0, 4);
                Maker.told(what, generation, 4, 0, 6);
            }
        }
    }

    private static void leastAndGreatest() {
        long[] numbers = {0, 1, 9, 10, 99999, 2147483647L, 2147483648L, 4294967295L, 4294967296L, 4294967297L,
            9999999998L, 9999999999L};
        for (long number : numbers) {
            Maker.counts("place " + number, Maker.readTable("7 1 " + number + " 6 f"), 7, 1, number, 6);
            Maker.counts("generation " + number, Maker.readTable("7 1 5 " + number + " f"), 7, 1, 5, number);
            Maker.counts("place " + number, Maker.readTable("7 1 " + number + " 6 n"), 7, 4, number, 6);
        }
        Maker.told("10000000000 is none", Maker.readTable("7 1 10000000000 6 f"), 4, 0, 4);
    }

    private static void digitsAlone() {
        for (int b = 0; b < 256; b++) {
            CrossTables x = Maker.readTable((char) b + " 0");
            if (isDigit(b)) {
                Maker.told("byte " + b, x);
            } else {
                Maker.told("byte " + b, x, 4, 0, isBlank(b) ? 3 : 0);
            }
            if (isDigit(b)) {
                int digit = b - 48;
                Maker.counts("digit " + digit, Maker.readTable("7 1 " + (char) b + " 6 f"), 7, 1, digit, 6);
            }
        }
    }

    private static void digitsAmongOthers() {
        for (int b = 0; b < 256; b++) {
            if (!isDigit(b) && !isBlank(b)) {
                Maker.told("byte " + b + " behind", Maker.readTable("0 1" + (char) b), 4, 0, 2);
                Maker.told("byte " + b + " before", Maker.readTable((char) b + "1 0"), 4, 0, 0);
                Maker.told("byte " + b + " as the tenth", Maker.readTable("0 000000000" + (char) b), 4, 0, 2);
            }
        }
    }

    private static void marks() {
        for (int b = 0; b < 256; b++) {
            CrossTables x = Maker.readTable("7 1 5 6 " + (char) b);
            if (b == 110) {
                Maker.counts("n", x, 7, 4, 5, 6);
                Maker.told("n", x, 3, 0, 4, 7, 7, 5);
            } else if (b == 102) {
                Maker.counts("f", x, 7, 1, 5, 6);
                Maker.told("f", x, 3, 0, 4);
            } else {
                Maker.nothingCounts("byte " + b, x, 7);
                Maker.told("byte " + b, x, 4, 0, 4);
            }
        }
    }

    private static void longerMarks() {
        for (String mark : new String[] {"nn", "ff", "nf", "fn", "n0", "0n", "f.", "N", "F"}) {
            CrossTables x = Maker.readTable("7 1 5 6 " + mark);
            Maker.nothingCounts(mark, x, 7);
            Maker.told(mark, x, 4, 0, 4);
        }
    }

    private static void marksWhenNoneIsDue() {
        for (int b = 0; b < 256; b++) {
            CrossTables x = Maker.readTable("7 0 " + (char) b);
            if (b == 110 || b == 102) {
                Maker.told("a row", x, 4, 0, 0);
            } else if (isBlank(b)) {
                Maker.told("byte " + b, x);
            } else {
                Maker.told("byte " + b, x, 4, 0, isDigit(b) ? 5 : 4);
            }
        }
    }

    private static void noTokens() {
        for (String text : new String[] {"", " ", "\0", " \n\t\r\f\0", " ".repeat(300)}) {
            CrossTables x = Maker.readTable(text);
            Check.answers("read(10)", 0, () -> x.read(10));
            Maker.told("nothing is wrong", x);
        }
    }
}
