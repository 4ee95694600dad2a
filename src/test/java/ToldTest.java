/** Promise 14: told. */
public final class ToldTest {
    public static void main(String[] args) {
        wrongInputs();
        byObjects();
        twoHundred();
        twoHundredAndObjects();
        Check.end();
    }

    private static void wrongInputs() {
        CrossTables x = new CrossTables();
        Maker.table(x, 10, 77, "x");
        x.read(10);
        Maker.told("two", x, 4, 0, 0, 2, 0, 77);
        for (int what : new int[] {-1, 3, Integer.MIN_VALUE, Integer.MAX_VALUE}) {
            Check.answers("told(-1, " + what + ")", 2, () -> x.told(-1, what));
            Check.refuses("told(0, " + what + ")", IndexOutOfBoundsException.class, () -> x.told(0, what));
        }
        for (int i : new int[] {-2, 2, 200, Integer.MIN_VALUE, Integer.MAX_VALUE}) {
            Check.refuses("told(" + i + ", 0)", IndexOutOfBoundsException.class, () -> x.told(i, 0));
            Check.refuses("told(" + i + ", 3)", IndexOutOfBoundsException.class, () -> x.told(i, 3));
        }
        x.read(11);
        Maker.told("none", x);
        Check.refuses("told(0, 0)", IndexOutOfBoundsException.class, () -> x.told(0, 0));
    }

    private static void byObjects() {
        CrossTables x = new CrossTables();
        Maker.table(x, 10, -1, "8 2\n" + Maker.row(5, 0, 'n') + Maker.row(0, 0, 'f')
                + "3 2\n" + Maker.row(0, 0, 'f') + Maker.row(6, 0, 'n'));
        x.head(100, 9, 0);
        x.head(200, 3, 0);
        x.read(10);
        Maker.told("by objects", x, 6, 3, 200, 7, 4, 6, 7, 8, 5, 6, 9, 100);
    }

    /**
     * A row "0 0 f " takes six bytes, so five tables bring more than two hundred odd rows. That takes more
     * calls than the 512 that the document promises; the limit is looked at all the same, for nothing else is.
     */
    private static CrossTables manyOddRows(int tables, int rows) {
        CrossTables x = new CrossTables();
        String text = "1 " + rows + " " + "0 0 f ".repeat(rows);
        for (int i = 0; i < tables; i++) {
            Maker.table(x, i, i + 1, text);
        }
        return x;
    }

    private static void twoHundred() {
        CrossTables x = manyOddRows(5, 49);
        x.head(3, 1, 0);
        Check.answers("read", 49, () -> x.read(0));
        Check.answers("two hundred are kept", 200, () -> x.told(-1, 0));
        for (int i = 0; i < 200; i++) {
            int asked = i;
            Check.answers("kind " + i, 3, () -> x.told(asked, 0));
            Check.answers("section " + i, i / 49, () -> x.told(asked, 1));
            Check.answers("number " + i, 5 + i % 49 * 6, () -> x.told(asked, 2));
        }
        Check.refuses("told(200, 0)", IndexOutOfBoundsException.class, () -> x.told(200, 0));
        x.read(4);
        Check.answers("fewer in the next reading", 49 + 1 + 1, () -> x.told(-1, 0));
    }

    private static void twoHundredAndObjects() {
        CrossTables x = manyOddRows(4, 49);
        int stream = Maker.stream(x, 4, -1);
        x.widths(stream, 0, 0, 0);
        x.run(stream, 60, 10);
        Check.answers("read", 59, () -> x.read(0));
        Check.answers("two hundred are kept", 200, () -> x.told(-1, 0));
        Check.answers("the last one's kind", 7, () -> x.told(199, 0));
        Check.answers("the last one's object", 63, () -> x.told(199, 1));
        Maker.counts("wrong, though it is not kept", x, 69, 4, 0, 0);
    }
}
