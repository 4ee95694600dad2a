/** What a TABLE's bytes tell: tokens, numbers, rows, beginnings, odd rows, and what is wrong. */
public final class TableRowsTest {
    public static void main(String[] args) {
        blanks();
        numbers();
        beginnings();
        wrongTokens();
        wrongRowsAndBeginnings();
        wrongEnds();
        oddRows();
        objectsAboveTheLast();
        firstRowOfAnObject();
        mostTokens();
        nothingIsLeftOfAnotherTable();
        Check.end();
    }

    private static void blanks() {
        for (char blank : new char[] {0, 9, 10, 12, 13, 32}) {
            CrossTables x = Maker.readTable("7 1 5 6 f".replace(' ', blank));
            Maker.counts("blank " + (int) blank, x, 7, 1, 5, 6);
            Maker.told("blank " + (int) blank, x, 3, 0, 4);
        }
        for (char other : new char[] {1, 8, 11, 14, 31, 33, 47, 58, 127, 128, 160, 255, 266 - 256 + 128}) {
            CrossTables x = Maker.readTable("7" + other + "1 5 6 f");
            Maker.nothingCounts("no blank " + (int) other, x, 7);
            Maker.told("no blank " + (int) other, x, 4, 0, 0);
        }
        Maker.told("no bytes", Maker.readTable(""));
        Maker.told("blanks only", Maker.readTable(" \n\t\r\f\0"));
        Maker.told("blanks before", Maker.readTable("  \n 0 0"));
        Maker.told("blanks before what is wrong", Maker.readTable("  \n x"), 4, 0, 4);
    }

    private static void numbers() {
        CrossTables x = Maker.readTable("7 2 9999999999 9999999999 f\n0 9999999998 n");
        Maker.counts("ten digits", x, 7, 1, Maker.LAST, Maker.LAST);
        Maker.counts("a generation that no head has", x, 8, 4, 0, 9999999998L);
        Maker.told("ten digits", x, 3, 0, 4, 3, 0, 28, 7, 8, 0);
        Maker.told("eleven digits", Maker.readTable("00000000001 0"), 4, 0, 0);
        Maker.told("eleven digits behind", Maker.readTable("1 00000000000"), 4, 0, 2);
        Maker.told("ten digits are a number", Maker.readTable("0000000001 0000000000"));
        Maker.told("a sign", Maker.readTable("1 -1"), 4, 0, 2);
        Maker.told("a plus", Maker.readTable("+1 1"), 4, 0, 0);
        Maker.told("a letter behind", Maker.readTable("1 1a"), 4, 0, 2);
        Maker.told("below the digits", Maker.readTable("1 1/"), 4, 0, 2);
        Maker.told("above the digits", Maker.readTable("1 :1"), 4, 0, 2);
        Maker.told("a byte above 127", Maker.readTable("1 " + (char) 0xB1), 4, 0, 2);
    }

    private static void beginnings() {
        CrossTables x = Maker.readTable("3 1\n" + Maker.row(1, 1, 'f') + "5 2\n" + Maker.row(2, 2, 'f') + Maker.row(3, 3, 'f')
                + "9 0\n8 0\n20 1\n" + Maker.row(4, 4, 'f'));
        Maker.counts("3", x, 3, 1, 1, 1);
        Maker.counts("5", x, 5, 1, 2, 2);
        Maker.counts("6", x, 6, 1, 3, 3);
        Maker.counts("20", x, 20, 1, 4, 4);
        Maker.nothingCounts("4", x, 4);
        Maker.nothingCounts("7", x, 7);
        Maker.nothingCounts("9", x, 9);
        Maker.told("beginnings", x);
    }

    private static void wrongTokens() {
        Maker.told("first", Maker.readTable("x 1"), 4, 0, 0);
        Maker.told("second", Maker.readTable("0 x"), 4, 0, 2);
        Maker.told("n first", Maker.readTable("n"), 4, 0, 0);
        Maker.told("f second", Maker.readTable("0 f"), 4, 0, 2);
        Maker.told("third of a beginning", Maker.readTable("0 0 x"), 4, 0, 4);
        Maker.told("longer than n", Maker.readTable("0 0 nn"), 4, 0, 4);
        Maker.told("a capital", Maker.readTable("0 0 N"), 4, 0, 4);
        Maker.told("first of a row", Maker.readTable("0 1 x 0 n"), 4, 0, 4);
        Maker.told("second of a row", Maker.readTable("0 1 0 x n"), 4, 0, 6);
        Maker.told("n twice", Maker.readTable("0 2 1 0 f f"), 3, 0, 4, 4, 0, 10);
        CrossTables x = Maker.readTable("0 2\n" + Maker.row(1, 0, 'f') + "x " + Maker.row(0, 0, 'f') + "5 1 " + Maker.row(0, 0, 'f'));
        Maker.counts("before what is wrong", x, 0, 1, 1, 0);
        Maker.nothingCounts("behind it nothing is read", x, 1);
        Maker.nothingCounts("behind it nothing is read", x, 5);
        Maker.told("nothing is read", x, 4, 0, 24);
    }

    private static void wrongRowsAndBeginnings() {
        Maker.told("a row when none is due", Maker.readTable("0 0 n"), 4, 0, 0);
        Maker.told("a row when none is due any more", Maker.readTable("0 1 " + Maker.row(0, 0, 'f') + Maker.row(0, 0, 'f')), 4, 0, 24);
        Maker.told("a row behind a beginning without rows", Maker.readTable("5 0 1 1 f"), 4, 0, 4);
        Maker.told("a row of more than 100", Maker.readTable("5 0 1 101 f"), 4, 0, 4);
        Maker.told("a beginning when a row is due", Maker.readTable("0 1 0 1 0 0 n"), 4, 0, 4);
        Maker.told("a beginning when a row is due, at the end", Maker.readTable("0 1 0 0"), 4, 0, 4);
        Maker.told("a beginning when a row is due, another token", Maker.readTable("0 1 0 0 x"), 4, 0, 4);
        Maker.told("101 due", Maker.readTable(" 0 101"), 4, 0, 1);
        Maker.told("9999999999 due", Maker.readTable("0 9999999999"), 4, 0, 0);
        Maker.told("4294967296 due", Maker.readTable("0 4294967296"), 4, 0, 0);
        Maker.told("100 due", Maker.readTable("0 100"), 4, 0, 5);
        CrossTables x = Maker.readTable("0 1 0 0 n\n1 1 0 0 x");
        Maker.counts("a row before", x, 0, 4, 0, 0);
        Maker.nothingCounts("no row", x, 1);
        Maker.told("one row, one beginning", x, 3, 0, 4, 4, 0, 14, 7, 0, 0);
    }

    private static void wrongEnds() {
        Maker.told("behind one number", Maker.readTable("0"), 4, 0, 1);
        Maker.told("behind one number and blanks", Maker.readTable("0  \n"), 4, 0, 4);
        Maker.told("rows are due", Maker.readTable("0 1"), 4, 0, 3);
        Maker.told("rows are due, blanks", Maker.readTable("0 1\n\n"), 4, 0, 5);
        Maker.told("one number of a row", Maker.readTable("0 1 7 "), 4, 0, 6);
        Maker.told("one row more is due", Maker.readTable("0 2\n" + Maker.row(0, 0, 'f')), 4, 0, 24);
        Maker.told("no row is due", Maker.readTable("0 0\n"));
        Maker.told("one number behind the rows", Maker.readTable("0 1\n" + Maker.row(0, 0, 'f') + "5"), 4, 0, 25);
    }

    private static void oddRows() {
        String good = "0000000001 00000 f \n";
        Maker.told("twenty", Maker.readTable("0 2\n" + good + good));
        Maker.told("twenty, the beginning behind", Maker.readTable("0 1\n" + good + "5 0"));
        Maker.told("a blank too few", Maker.readTable("0 2\n0000000001 00000 f\n" + good), 3, 0, 4);
        Maker.told("a blank too many", Maker.readTable("0 2\n0000000001 00000 f  \n" + good), 3, 0, 4);
        Maker.told("the end too early", Maker.readTable("0 1\n0000000001 00000 f "), 3, 0, 4);
        Maker.told("the end too late", Maker.readTable("0 1\n" + good + "\n"), 3, 0, 4);
        Maker.told("other blanks inside", Maker.readTable("0 1\n1    00000 f        \n" + "5 0"), 3, 0, 4);
        Maker.told("twenty with other digits", Maker.readTable("0 1\n1    00000 f       \n" + "5 0"));
        Maker.told("odd, then wrong", Maker.readTable("0 2\n1 2 f x"), 3, 0, 4, 4, 0, 10);
        Maker.told("odd where an object tells nothing", Maker.readTable("100 1\n1 2 f"), 3, 0, 6);
        CrossTables x = Maker.readTable("0 1\n3 2 f");
        Maker.counts("an odd row counts", x, 0, 1, 3, 2);
        Maker.told("a wrong row is not odd", Maker.readTable("3 2 f"), 4, 0, 0);
    }

    private static void objectsAboveTheLast() {
        CrossTables x = Maker.readTable("98 4\n" + Maker.row(1, 1, 'f') + Maker.row(2, 2, 'f') + Maker.row(3, 3, 'f')
                + Maker.row(4, 4, 'f') + "9999999999 1\n" + Maker.row(5, 5, 'f') + "0 1\n" + Maker.row(6, 6, 'f')
                + "4294967297 1\n" + Maker.row(7, 7, 'f'));
        Check.answers("three count", 3, () -> x.read(10));
        Maker.counts("98", x, 98, 1, 1, 1);
        Maker.counts("99", x, 99, 1, 2, 2);
        Maker.counts("0", x, 0, 1, 6, 6);
        Maker.nothingCounts("1", x, 1);
        Maker.told("above the last", x);
    }

    private static void firstRowOfAnObject() {
        CrossTables x = Maker.readTable("7 1\n" + Maker.row(1, 1, 'f') + "6 2\n" + Maker.row(2, 2, 'f') + Maker.row(3, 3, 'n'));
        Maker.counts("the first one", x, 7, 1, 1, 1);
        Maker.counts("6", x, 6, 1, 2, 2);
        Maker.revisions("once", x, 7, 0);
        Check.answers("two count", 2, () -> x.read(10));
    }

    private static void mostTokens() {
        Maker.told("150 tokens", Maker.readTable("0 ".repeat(150)));
        Maker.told("150 tokens, the last one wrong", Maker.readTable("0 ".repeat(149) + "x "), 4, 0, 298);
        CrossTables x = Maker.readTable("9 1 0 7 f ".replace("9", "0 ".repeat(144) + "9"));
        Maker.counts("in the last tokens", x, 9, 1, 0, 7);
    }

    /** The first table's eighth token stands where the second, of seven, has an n. */
    private static void nothingIsLeftOfAnotherTable() {
        CrossTables x = new CrossTables();
        Maker.table(x, 10, -1, "0000000000 0000000001 0 0 n 5 0");
        Maker.table(x, 20, 10, "0 0 0 0 0 0 0             0 0 0");
        x.read(20);
        Maker.told("two tables", x, 3, 0, 22, 7, 0, 0);
    }
}
