/** Of the terms: the ROWS and BEGINNINGS of a TABLE, what is wrong in it, and ODD ROWS. */
public final class TableRowsTest {
    private static final String GOOD = "0000000001 00000 f \n";

    public static void main(String[] args) {
        Check.sentence("a ROW: a place (f: the next free object) and a GENERATION", TableRowsTest::rows);
        Check.sentence("n of one that is USED, f of one that is FREE", TableRowsTest::usedAndFree);
        Check.sentence("of the object whose turn it is", TableRowsTest::turns);
        Check.sentence("Two others are a BEGINNING: how many ROWS are due", TableRowsTest::due);
        Check.sentence("a BEGINNING: none are due", TableRowsTest::noneDue);
        Check.sentence("(at most 100)", TableRowsTest::hundredDue);
        Check.sentence("Wrong is a TOKEN that is no NUMBER where one must stand: of a BEGINNING", TableRowsTest::noNumberOfBeginning);
        Check.sentence("Wrong is a TOKEN that is no NUMBER where one must stand: of a ROW", TableRowsTest::noNumberOfRow);
        Check.sentence("or (its first NUMBER) a ROW when none is due", TableRowsTest::rowWhenNoneIsDue);
        Check.sentence("a BEGINNING when one is", TableRowsTest::beginningWhenOneIsDue);
        Check.sentence("or with more than 100 due", TableRowsTest::moreThanHundred);
        Check.sentence("or the end when a NUMBER must come", TableRowsTest::endForNumber);
        Check.sentence("or the end when a ROW must come", TableRowsTest::endForRow);
        Check.sentence("the end when nothing must come is not wrong", TableRowsTest::goodEnd);
        Check.sentence("nothing behind is read", TableRowsTest::nothingBehind);
        Check.sentence("what is before is read", TableRowsTest::whatIsBefore);
        Check.sentence("ODD if the next TOKEN is not 20 bytes behind its first one's beginning", TableRowsTest::oddByNextToken);
        Check.sentence("ODD if the end is not 20 bytes behind its first one's beginning", TableRowsTest::oddByEnd);
        Check.sentence("ODD: what stands inside the 20 bytes is free", TableRowsTest::insideIsFree);
        Check.sentence("ODD: the row counts all the same, and one that is wrong is not ODD", TableRowsTest::oddAndWrong);
        Check.sentence("ROWS of objects above 99 are ODD, too", TableRowsTest::oddAboveTheLast);
        Check.sentence("one table after the other", TableRowsTest::nothingIsLeftOfAnotherTable);
        Check.end();
    }

    private static void rows() {
        CrossTables x = Maker.readTable("3 2\n" + Maker.row(Maker.LAST, 65535, 'f') + Maker.row(17, 0, 'n'));
        Maker.counts("f", x, 3, 1, Maker.LAST, 65535);
        Maker.counts("n", x, 4, 4, 17, 0);
        Maker.told("both are good rows", x, 7, 4, 17);
    }

    private static void usedAndFree() {
        CrossTables x = Maker.readTable("3 2\n" + Maker.row(5, 1, 'n') + Maker.row(5, 1, 'f'));
        x.head(5, 3, 1);
        x.read(10);
        Maker.counts("n", x, 3, 2, 5, 1);
        Maker.counts("f", x, 4, 1, 5, 1);
    }

    private static void turns() {
        CrossTables x = Maker.readTable("3 1\n" + Maker.row(1, 1, 'f') + "5 2\n" + Maker.row(2, 2, 'f') + Maker.row(3, 3, 'f')
                + "0 1\n" + Maker.row(4, 4, 'f') + "99 1\n" + Maker.row(5, 5, 'f'));
        long[] places = new long[100];
        places[3] = 1;
        places[5] = 2;
        places[6] = 3;
        places[0] = 4;
        places[99] = 5;
        for (int object = 0; object < 100; object++) {
            int asked = object;
            long want = places[object] == 0 ? -1 : places[object];
            Check.answers("place(" + object + ", 0)", want, () -> x.place(asked, 0));
        }
        Maker.told("turns", x);
    }

    private static void due() {
        for (int rows = 1; rows <= 14; rows++) {
            int many = rows;
            CrossTables x = Maker.readTable("0 " + rows + "\n" + GOOD.repeat(rows) + "5 0");
            Check.answers(rows + " rows", rows, () -> x.read(10));
            Maker.told(rows + " rows", x);
            CrossTables y = Maker.readTable("0 " + rows + "\n" + GOOD.repeat(rows - 1));
            Check.answers("one row less", many - 1, () -> y.read(10));
            Check.answers("one row less is wrong", 1, () -> y.told(-1, 0));
        }
    }

    private static void noneDue() {
        CrossTables x = Maker.readTable("5 0\n6 0\n0 0 7 1\n" + GOOD);
        Check.answers("only behind the last one", 1, () -> x.read(10));
        Maker.counts("only behind the last one", x, 7, 1, 1, 0);
        Maker.told("none are due", x);
        Maker.told("ten digits", Maker.readTable("5 0000000000 6 0"));
    }

    /** The rows themselves find no room in 300 bytes; but the end is told, and not the beginning. */
    private static void hundredDue() {
        Maker.told("99 due", Maker.readTable("0 99"), 4, 0, 4);
        Maker.told("100 due", Maker.readTable("0 100"), 4, 0, 5);
        Maker.told("100 due, ten digits", Maker.readTable(" 0 0000000100 "), 4, 0, 14);
        CrossTables x = Maker.readTable("0 100 " + "1 0 f ".repeat(49));
        Check.answers("49 rows of them", 49, () -> x.read(10));
        Check.answers("odd rows, and the end", 50, () -> x.told(-1, 0));
        Check.answers("the end", 300, () -> x.told(49, 2));
    }

    private static void noNumberOfBeginning() {
        Maker.told("the first", Maker.readTable("x 1"), 4, 0, 0);
        Maker.told("the first, n", Maker.readTable("n"), 4, 0, 0);
        Maker.told("the first, f", Maker.readTable(" f 0"), 4, 0, 1);
        Maker.told("the second", Maker.readTable("0 x"), 4, 0, 2);
        Maker.told("the second, n", Maker.readTable("0 n"), 4, 0, 2);
        Maker.told("the second, f", Maker.readTable("0  f"), 4, 0, 3);
        Maker.told("the first of the second beginning", Maker.readTable("0 0 x"), 4, 0, 4);
        Maker.told("the second of the second beginning", Maker.readTable("0 0 1 x"), 4, 0, 6);
        Maker.told("behind the rows", Maker.readTable("0 1\n" + GOOD + "trailer"), 4, 0, 24);
        Maker.told("behind the rows, the second", Maker.readTable("0 1\n" + GOOD + "1 x"), 4, 0, 26);
    }

    private static void noNumberOfRow() {
        Maker.told("the first", Maker.readTable("0 1 x 0 n"), 4, 0, 4);
        Maker.told("the first of the second row, n", Maker.readTable("0 2\n" + GOOD + "n 0 f"), 4, 0, 24);
        Maker.told("the second", Maker.readTable("0 1 0 x n"), 4, 0, 6);
        Maker.told("the second, n", Maker.readTable("0 1 0 n"), 4, 0, 6);
        Maker.told("the second, f", Maker.readTable("0 1 0 f 0 0 f"), 4, 0, 6);
        Maker.told("the first of the second row", Maker.readTable("0 2\n" + GOOD + "x 0 f"), 4, 0, 24);
        Maker.told("the second of the second row", Maker.readTable("0 2\n" + GOOD + "0 x f"), 4, 0, 26);
        Maker.told("f twice", Maker.readTable("0 2\n" + "0000000001 00000 f f" + GOOD), 3, 0, 4, 4, 0, 23);
    }

    private static void rowWhenNoneIsDue() {
        Maker.told("at once, n", Maker.readTable("0 0 n"), 4, 0, 0);
        Maker.told("at once, f", Maker.readTable(" 0 0 f"), 4, 0, 1);
        Maker.told("at once, more than 100", Maker.readTable("0 101 f"), 4, 0, 0);
        Maker.told("a beginning that n makes a row", Maker.readTable("0 1 n 0 0 n"), 4, 0, 0);
        Maker.told("behind the last", Maker.readTable("0 1\n" + GOOD + GOOD), 4, 0, 24);
        Maker.told("behind the last of two", Maker.readTable("0 2\n" + GOOD + GOOD + GOOD), 4, 0, 44);
        Maker.told("behind a beginning of none", Maker.readTable("5 0\n" + GOOD), 4, 0, 4);
        CrossTables x = Maker.readTable("5 0\n" + GOOD);
        Maker.nothingCounts("it tells nothing", x, 5);
        Maker.nothingCounts("it tells nothing", Maker.readTable(GOOD), 0);
    }

    private static void beginningWhenOneIsDue() {
        Maker.told("at once", Maker.readTable("0 1 7 1 0 0 n"), 4, 0, 4);
        Maker.told("at once, of none", Maker.readTable("0 1 7 0"), 4, 0, 4);
        Maker.told("at once, another token", Maker.readTable("0 1 7 0 x"), 4, 0, 4);
        Maker.told("at once, more than 100", Maker.readTable("0 1 7 101"), 4, 0, 4);
        Maker.told("when one more is due", Maker.readTable("0 2\n" + GOOD + "7 1\n" + GOOD), 4, 0, 24);
        Maker.told("when 99 more are due", Maker.readTable("0 100\n" + GOOD + "7 1\n" + GOOD), 4, 0, 26);
        CrossTables x = Maker.readTable("0 2\n" + GOOD + "7 1\n" + GOOD);
        Maker.nothingCounts("it begins nothing", x, 7);
        Maker.nothingCounts("it is no row", x, 1);
    }

    private static void moreThanHundred() {
        for (String due : new String[] {"101", "0000000101", "200", "4294967295", "4294967296", "4294967297", "9999999999"}) {
            CrossTables x = Maker.readTable(" 0 " + due + "\n" + GOOD);
            Maker.told(due + " due", x, 4, 0, 1);
            Maker.nothingCounts(due + " due", x, 0);
        }
        Maker.told("behind the rows", Maker.readTable("0 1\n" + GOOD + "5 101"), 4, 0, 24);
        Maker.told("the object may be more", Maker.readTable("101 0 9999999999 0"));
    }

    private static void endForNumber() {
        Maker.told("behind one number", Maker.readTable("0"), 4, 0, 1);
        Maker.told("behind one number and blanks", Maker.readTable("0  \n"), 4, 0, 4);
        Maker.told("behind one number of the second beginning", Maker.readTable("0 0 7"), 4, 0, 5);
        Maker.told("behind one number of a row", Maker.readTable("0 1 7"), 4, 0, 5);
        Maker.told("behind one number of a row, and a blank", Maker.readTable("0 1 7 "), 4, 0, 6);
        Maker.told("behind one number of the second row", Maker.readTable("0 2\n" + GOOD + "5"), 4, 0, 25);
        Maker.told("one number behind the rows", Maker.readTable("0 1\n" + GOOD + "5"), 4, 0, 25);
    }

    private static void endForRow() {
        Maker.told("one is due", Maker.readTable("0 1"), 4, 0, 3);
        Maker.told("one is due, blanks", Maker.readTable("0 1\n\n"), 4, 0, 5);
        Maker.told("one more is due", Maker.readTable("0 2\n" + GOOD), 4, 0, 24);
        Maker.told("one is due behind a beginning of none", Maker.readTable("0 0 0 1"), 4, 0, 7);
        Maker.told("of an object above 99", Maker.readTable("500 1 "), 4, 0, 6);
    }

    private static void goodEnd() {
        Maker.told("no bytes", Maker.readTable(""));
        Maker.told("none are due", Maker.readTable("0 0"));
        Maker.told("none are due, blanks", Maker.readTable("0 0\n\n"));
        Maker.told("behind the last row", Maker.readTable("0 1\n" + GOOD));
    }

    private static void nothingBehind() {
        String[] wrongs = {"x ", "0 x ", "0 0 f ", "0 101 ", "n "};
        for (String wrong : wrongs) {
            CrossTables x = Maker.readTable(wrong + "5 1\n" + "1 2 f " + "x");
            Check.answers(wrong, 0, () -> x.read(10));
            Maker.told(wrong, x, 4, 0, wrong.equals("0 x ") ? 2 : 0);
        }
        CrossTables x = Maker.readTable("0 2\n7 1\n" + GOOD + "1 2 f 5 1 1 2 f");
        Check.answers("behind a beginning when a row is due", 0, () -> x.read(10));
        Maker.told("behind a beginning when a row is due", x, 4, 0, 4);
    }

    private static void whatIsBefore() {
        CrossTables x = Maker.readTable("0 2\n" + Maker.row(1, 0, 'f') + Maker.row(0, 7, 'f') + "x 5 1 " + Maker.row(0, 0, 'f'));
        Check.answers("two", 2, () -> x.read(10));
        Maker.counts("the first row", x, 0, 1, 1, 0);
        Maker.counts("the second row", x, 1, 1, 0, 7);
        Maker.told("behind them", x, 4, 0, 44);
    }

    private static void oddByNextToken() {
        String row = "0000000001 00000 f";
        for (int blanks = 1; blanks <= 5; blanks++) {
            long[] odd = blanks == 2 ? new long[0] : new long[] {3, 0, 4};
            String text = "0 2\n" + row + " ".repeat(blanks) + GOOD;
            Maker.told(blanks + " blanks, a row behind", Maker.readTable(text), odd);
            text = "0 1\n" + row + " ".repeat(blanks) + "5 0";
            Maker.told(blanks + " blanks, a beginning behind", Maker.readTable(text), odd);
        }
        Maker.told("what is wrong behind", Maker.readTable("0 1\n" + row + "  x"), 4, 0, 24);
        Maker.told("what is wrong behind, 19 bytes", Maker.readTable("0 1\n" + row + " x"), 3, 0, 4, 4, 0, 23);
        Maker.told("what is wrong behind, 21 bytes", Maker.readTable("0 1\n" + row + "   x"), 3, 0, 4, 4, 0, 25);
        Maker.told("each for itself", Maker.readTable("0 3\n" + row + " " + GOOD + row + " "), 3, 0, 4, 3, 0, 43);
    }

    private static void oddByEnd() {
        String row = "0000000001 00000 f";
        for (int blanks = 0; blanks <= 5; blanks++) {
            long[] odd = blanks == 2 ? new long[0] : new long[] {3, 0, 4};
            Maker.told(blanks + " blanks, the end behind", Maker.readTable("0 1\n" + row + " ".repeat(blanks)), odd);
        }
        Maker.told("the end, a row is due", Maker.readTable("0 2\n" + row + "  "), 4, 0, 24);
        Maker.told("19 bytes, a row is due", Maker.readTable("0 2\n" + row + " "), 3, 0, 4, 4, 0, 23);
        Maker.told("21 bytes, a row is due", Maker.readTable("0 2\n" + row + "   "), 3, 0, 4, 4, 0, 25);
    }

    private static void insideIsFree() {
        Maker.told("short numbers", Maker.readTable("0 1\n1 2 f" + " ".repeat(15)));
        Maker.told("blanks between", Maker.readTable("0 1\n1" + " ".repeat(15) + "2 f "));
        Maker.told("blanks before are not its own", Maker.readTable("0 1" + " ".repeat(30) + "1 2 f" + " ".repeat(15)));
        Maker.told("twenty bytes without a blank behind", Maker.readTable("0 1\n0000000001  00000  f"));
        Maker.told("longer than twenty", Maker.readTable("0 1\n0000000001 0000000000 f"), 3, 0, 4);
    }

    private static void oddAndWrong() {
        CrossTables x = Maker.readTable("0 1\n3 2 f");
        Maker.counts("an odd row counts", x, 0, 1, 3, 2);
        Maker.told("an odd row", x, 3, 0, 4);
        Maker.told("a wrong row is not odd", Maker.readTable("3 2 f"), 4, 0, 0);
        Maker.told("nor one behind the last", Maker.readTable("0 1\n" + GOOD + "3 2 f"), 4, 0, 24);
    }

    private static void oddAboveTheLast() {
        CrossTables x = Maker.readTable("100 2\n1 2 f " + GOOD);
        Maker.told("the row of 100", x, 3, 0, 6);
        Check.answers("it tells nothing", 0, () -> x.read(10));
    }

    /** The first table's eighth token stands where the second, of seven, has an n. */
    private static void nothingIsLeftOfAnotherTable() {
        CrossTables x = new CrossTables();
        Maker.table(x, 10, -1, "0000000000 0000000001 0 0 n 5 0");
        Maker.table(x, 20, 10, "0 0 0 0 0 0 0             0 0 0");
        x.read(20);
        Maker.told("more tokens before", x, 3, 0, 22, 7, 0, 0);
        CrossTables y = new CrossTables();
        Maker.table(y, 10, -1, GOOD);
        Maker.table(y, 20, 10, "0 3\n" + GOOD);
        y.read(20);
        Maker.told("rows that are due in one are not due in the next", y, 4, 1, 24, 4, 0, 0);
    }
}
